/-! ===== the reference: isStair, its inner loops ===== -/
abbrev mX6_isStair : MI := (yX6_isStair, cX6_isStair, 8, (some FieldType.boolean), noX)
theorem dX6_isStair_0 : decode cX6_isStair 0 = .ok (.iconst (-1), 1) := by decide +kernel
theorem dX6_isStair_1 : decode cX6_isStair 1 = .ok (.istore_n 3, 1) := by decide +kernel
theorem dX6_isStair_2 : decode cX6_isStair 2 = .ok (.iconst 0, 1) := by decide +kernel
theorem dX6_isStair_3 : decode cX6_isStair 3 = .ok (.istore 4, 2) := by decide +kernel
theorem dX6_isStair_5 : decode cX6_isStair 5 = .ok (.iconst 0, 1) := by decide +kernel
theorem dX6_isStair_6 : decode cX6_isStair 6 = .ok (.istore 5, 2) := by decide +kernel
theorem dX6_isStair_8 : decode cX6_isStair 8 = .ok (.iload 5, 2) := by decide +kernel
theorem dX6_isStair_10 : decode cX6_isStair 10 = .ok (.aload_n 0, 1) := by decide +kernel
theorem dX6_isStair_11 : decode cX6_isStair 11 = .ok (.getfield 37, 3) := by decide +kernel
theorem dX6_isStair_14 : decode cX6_isStair 14 = .ok (.iload_n 1, 1) := by decide +kernel
theorem dX6_isStair_15 : decode cX6_isStair 15 = .ok (.iaload, 1) := by decide +kernel
theorem dX6_isStair_16 : decode cX6_isStair 16 = .ok (.if_icmp .ge 221, 3) := by decide +kernel
theorem dX6_isStair_19 : decode cX6_isStair 19 = .ok (.iconst 0, 1) := by decide +kernel
theorem dX6_isStair_20 : decode cX6_isStair 20 = .ok (.istore 6, 2) := by decide +kernel
theorem dX6_isStair_22 : decode cX6_isStair 22 = .ok (.iload 6, 2) := by decide +kernel
theorem dX6_isStair_24 : decode cX6_isStair 24 = .ok (.aload_n 0, 1) := by decide +kernel
theorem dX6_isStair_25 : decode cX6_isStair 25 = .ok (.getfield 40, 3) := by decide +kernel
theorem dX6_isStair_28 : decode cX6_isStair 28 = .ok (.iload_n 1, 1) := by decide +kernel
theorem dX6_isStair_29 : decode cX6_isStair 29 = .ok (.iaload, 1) := by decide +kernel
theorem dX6_isStair_30 : decode cX6_isStair 30 = .ok (.if_icmp .ge 21, 3) := by decide +kernel
theorem dX6_isStair_33 : decode cX6_isStair 33 = .ok (.aload_n 0, 1) := by decide +kernel
theorem dX6_isStair_34 : decode cX6_isStair 34 = .ok (.iload_n 1, 1) := by decide +kernel
theorem dX6_isStair_35 : decode cX6_isStair 35 = .ok (.iload 5, 2) := by decide +kernel
theorem dX6_isStair_37 : decode cX6_isStair 37 = .ok (.iload 6, 2) := by decide +kernel
theorem dX6_isStair_39 : decode cX6_isStair 39 = .ok (.invokevirtual 148, 3) := by decide +kernel
theorem dX6_isStair_42 : decode cX6_isStair 42 = .ok (.ifCond .ne 9, 3) := by decide +kernel
theorem dX6_isStair_45 : decode cX6_isStair 45 = .ok (.iinc 6 1, 3) := by decide +kernel
theorem dX6_isStair_48 : decode cX6_isStair 48 = .ok (.goto (-26), 3) := by decide +kernel
theorem dX6_isStair_51 : decode cX6_isStair 51 = .ok (.iload 6, 2) := by decide +kernel
theorem dX6_isStair_53 : decode cX6_isStair 53 = .ok (.aload_n 0, 1) := by decide +kernel
theorem dX6_isStair_54 : decode cX6_isStair 54 = .ok (.getfield 40, 3) := by decide +kernel
theorem dX6_isStair_57 : decode cX6_isStair 57 = .ok (.iload_n 1, 1) := by decide +kernel
theorem dX6_isStair_58 : decode cX6_isStair 58 = .ok (.iaload, 1) := by decide +kernel
theorem dX6_isStair_59 : decode cX6_isStair 59 = .ok (.if_icmp .ne 9, 3) := by decide +kernel
theorem dX6_isStair_62 : decode cX6_isStair 62 = .ok (.iconst 1, 1) := by decide +kernel
theorem dX6_isStair_63 : decode cX6_isStair 63 = .ok (.istore 4, 2) := by decide +kernel
theorem dX6_isStair_65 : decode cX6_isStair 65 = .ok (.goto 166, 3) := by decide +kernel
theorem dX6_isStair_68 : decode cX6_isStair 68 = .ok (.iload 4, 2) := by decide +kernel
theorem dX6_isStair_70 : decode cX6_isStair 70 = .ok (.ifCond .ne 21, 3) := by decide +kernel
theorem dX6_isStair_73 : decode cX6_isStair 73 = .ok (.iload 6, 2) := by decide +kernel
theorem dX6_isStair_75 : decode cX6_isStair 75 = .ok (.iload_n 3, 1) := by decide +kernel
theorem dX6_isStair_76 : decode cX6_isStair 76 = .ok (.if_icmp .le 15, 3) := by decide +kernel
theorem dX6_isStair_79 : decode cX6_isStair 79 = .ok (.aload_n 0, 1) := by decide +kernel
theorem dX6_isStair_80 : decode cX6_isStair 80 = .ok (.iload_n 1, 1) := by decide +kernel
theorem dX6_isStair_81 : decode cX6_isStair 81 = .ok (.iload 5, 2) := by decide +kernel
theorem dX6_isStair_83 : decode cX6_isStair 83 = .ok (.iload 6, 2) := by decide +kernel
theorem dX6_isStair_85 : decode cX6_isStair 85 = .ok (.invokevirtual 148, 3) := by decide +kernel
theorem dX6_isStair_88 : decode cX6_isStair 88 = .ok (.ifCond .ge 5, 3) := by decide +kernel
theorem dX6_isStair_91 : decode cX6_isStair 91 = .ok (.iconst 0, 1) := by decide +kernel
theorem dX6_isStair_92 : decode cX6_isStair 92 = .ok (.ireturn, 1) := by decide +kernel
theorem dX6_isStair_93 : decode cX6_isStair 93 = .ok (.iconst 0, 1) := by decide +kernel
theorem dX6_isStair_94 : decode cX6_isStair 94 = .ok (.istore 7, 2) := by decide +kernel
theorem dX6_isStair_96 : decode cX6_isStair 96 = .ok (.iload 7, 2) := by decide +kernel
theorem dX6_isStair_98 : decode cX6_isStair 98 = .ok (.iload 5, 2) := by decide +kernel
theorem dX6_isStair_100 : decode cX6_isStair 100 = .ok (.if_icmp .ge 44, 3) := by decide +kernel
theorem dX6_isStair_103 : decode cX6_isStair 103 = .ok (.aload_n 0, 1) := by decide +kernel
theorem dX6_isStair_104 : decode cX6_isStair 104 = .ok (.iload_n 1, 1) := by decide +kernel
theorem dX6_isStair_105 : decode cX6_isStair 105 = .ok (.iload 7, 2) := by decide +kernel
theorem dX6_isStair_107 : decode cX6_isStair 107 = .ok (.iload 6, 2) := by decide +kernel
theorem dX6_isStair_109 : decode cX6_isStair 109 = .ok (.invokevirtual 148, 3) := by decide +kernel
theorem dX6_isStair_112 : decode cX6_isStair 112 = .ok (.ifCond .lt 24, 3) := by decide +kernel
theorem dX6_isStair_115 : decode cX6_isStair 115 = .ok (.aload_n 0, 1) := by decide +kernel
theorem dX6_isStair_116 : decode cX6_isStair 116 = .ok (.iload_n 1, 1) := by decide +kernel
theorem dX6_isStair_117 : decode cX6_isStair 117 = .ok (.iload 7, 2) := by decide +kernel
theorem dX6_isStair_119 : decode cX6_isStair 119 = .ok (.iload 6, 2) := by decide +kernel
theorem dX6_isStair_121 : decode cX6_isStair 121 = .ok (.invokevirtual 148, 3) := by decide +kernel
theorem dX6_isStair_124 : decode cX6_isStair 124 = .ok (.aload_n 0, 1) := by decide +kernel
theorem dX6_isStair_125 : decode cX6_isStair 125 = .ok (.iload_n 1, 1) := by decide +kernel
theorem dX6_isStair_126 : decode cX6_isStair 126 = .ok (.iload 5, 2) := by decide +kernel
theorem dX6_isStair_128 : decode cX6_isStair 128 = .ok (.iload 6, 2) := by decide +kernel
theorem dX6_isStair_130 : decode cX6_isStair 130 = .ok (.invokevirtual 148, 3) := by decide +kernel
theorem dX6_isStair_133 : decode cX6_isStair 133 = .ok (.if_icmp .lt 5, 3) := by decide +kernel
theorem dX6_isStair_136 : decode cX6_isStair 136 = .ok (.iconst 0, 1) := by decide +kernel
theorem dX6_isStair_137 : decode cX6_isStair 137 = .ok (.ireturn, 1) := by decide +kernel
theorem dX6_isStair_138 : decode cX6_isStair 138 = .ok (.iinc 7 1, 3) := by decide +kernel
theorem dX6_isStair_141 : decode cX6_isStair 141 = .ok (.goto (-45), 3) := by decide +kernel
theorem dX6_isStair_144 : decode cX6_isStair 144 = .ok (.iload 6, 2) := by decide +kernel
theorem dX6_isStair_146 : decode cX6_isStair 146 = .ok (.istore_n 3, 1) := by decide +kernel
theorem dX6_isStair_147 : decode cX6_isStair 147 = .ok (.iload_n 2, 1) := by decide +kernel
theorem dX6_isStair_148 : decode cX6_isStair 148 = .ok (.ifCond .ne 6, 3) := by decide +kernel
theorem dX6_isStair_151 : decode cX6_isStair 151 = .ok (.goto 80, 3) := by decide +kernel
theorem dX6_isStair_154 : decode cX6_isStair 154 = .ok (.iload 6, 2) := by decide +kernel
theorem dX6_isStair_156 : decode cX6_isStair 156 = .ok (.iload 5, 2) := by decide +kernel
theorem dX6_isStair_158 : decode cX6_isStair 158 = .ok (.if_icmp .ne 34, 3) := by decide +kernel
theorem dX6_isStair_161 : decode cX6_isStair 161 = .ok (.iload 5, 2) := by decide +kernel
theorem dX6_isStair_163 : decode cX6_isStair 163 = .ok (.ifCond .le 31, 3) := by decide +kernel
theorem dX6_isStair_166 : decode cX6_isStair 166 = .ok (.aload_n 0, 1) := by decide +kernel
theorem dX6_isStair_167 : decode cX6_isStair 167 = .ok (.iload_n 1, 1) := by decide +kernel
theorem dX6_isStair_168 : decode cX6_isStair 168 = .ok (.iload 5, 2) := by decide +kernel
theorem dX6_isStair_170 : decode cX6_isStair 170 = .ok (.iload 6, 2) := by decide +kernel
theorem dX6_isStair_172 : decode cX6_isStair 172 = .ok (.invokevirtual 148, 3) := by decide +kernel
theorem dX6_isStair_175 : decode cX6_isStair 175 = .ok (.aload_n 0, 1) := by decide +kernel
theorem dX6_isStair_176 : decode cX6_isStair 176 = .ok (.iload_n 1, 1) := by decide +kernel
theorem dX6_isStair_177 : decode cX6_isStair 177 = .ok (.iload 5, 2) := by decide +kernel
theorem dX6_isStair_179 : decode cX6_isStair 179 = .ok (.iconst 1, 1) := by decide +kernel
theorem dX6_isStair_180 : decode cX6_isStair 180 = .ok (.isub, 1) := by decide +kernel
theorem dX6_isStair_181 : decode cX6_isStair 181 = .ok (.iload 6, 2) := by decide +kernel
theorem dX6_isStair_183 : decode cX6_isStair 183 = .ok (.iconst 1, 1) := by decide +kernel
theorem dX6_isStair_184 : decode cX6_isStair 184 = .ok (.isub, 1) := by decide +kernel
theorem dX6_isStair_185 : decode cX6_isStair 185 = .ok (.invokevirtual 148, 3) := by decide +kernel
theorem dX6_isStair_188 : decode cX6_isStair 188 = .ok (.irem, 1) := by decide +kernel
theorem dX6_isStair_189 : decode cX6_isStair 189 = .ok (.ifCond .eq 5, 3) := by decide +kernel
theorem dX6_isStair_192 : decode cX6_isStair 192 = .ok (.iconst 0, 1) := by decide +kernel
theorem dX6_isStair_193 : decode cX6_isStair 193 = .ok (.ireturn, 1) := by decide +kernel
theorem dX6_isStair_194 : decode cX6_isStair 194 = .ok (.iload 6, 2) := by decide +kernel
theorem dX6_isStair_196 : decode cX6_isStair 196 = .ok (.iconst 1, 1) := by decide +kernel
theorem dX6_isStair_197 : decode cX6_isStair 197 = .ok (.iadd, 1) := by decide +kernel
theorem dX6_isStair_198 : decode cX6_isStair 198 = .ok (.istore 7, 2) := by decide +kernel
theorem dX6_isStair_200 : decode cX6_isStair 200 = .ok (.iload 7, 2) := by decide +kernel
theorem dX6_isStair_202 : decode cX6_isStair 202 = .ok (.aload_n 0, 1) := by decide +kernel
theorem dX6_isStair_203 : decode cX6_isStair 203 = .ok (.getfield 40, 3) := by decide +kernel
theorem dX6_isStair_206 : decode cX6_isStair 206 = .ok (.iload_n 1, 1) := by decide +kernel
theorem dX6_isStair_207 : decode cX6_isStair 207 = .ok (.iaload, 1) := by decide +kernel
theorem dX6_isStair_208 : decode cX6_isStair 208 = .ok (.if_icmp .ge 23, 3) := by decide +kernel
theorem dX6_isStair_211 : decode cX6_isStair 211 = .ok (.aload_n 0, 1) := by decide +kernel
theorem dX6_isStair_212 : decode cX6_isStair 212 = .ok (.iload_n 1, 1) := by decide +kernel
theorem dX6_isStair_213 : decode cX6_isStair 213 = .ok (.iload 5, 2) := by decide +kernel
theorem dX6_isStair_215 : decode cX6_isStair 215 = .ok (.iload 7, 2) := by decide +kernel
theorem dX6_isStair_217 : decode cX6_isStair 217 = .ok (.invokevirtual 148, 3) := by decide +kernel
theorem dX6_isStair_220 : decode cX6_isStair 220 = .ok (.ifCond .eq 5, 3) := by decide +kernel
theorem dX6_isStair_223 : decode cX6_isStair 223 = .ok (.iconst 0, 1) := by decide +kernel
theorem dX6_isStair_224 : decode cX6_isStair 224 = .ok (.ireturn, 1) := by decide +kernel
theorem dX6_isStair_225 : decode cX6_isStair 225 = .ok (.iinc 7 1, 3) := by decide +kernel
theorem dX6_isStair_228 : decode cX6_isStair 228 = .ok (.goto (-28), 3) := by decide +kernel
theorem dX6_isStair_231 : decode cX6_isStair 231 = .ok (.iinc 5 1, 3) := by decide +kernel
theorem dX6_isStair_234 : decode cX6_isStair 234 = .ok (.goto (-226), 3) := by decide +kernel
theorem dX6_isStair_237 : decode cX6_isStair 237 = .ok (.iconst 1, 1) := by decide +kernel
theorem dX6_isStair_238 : decode cX6_isStair 238 = .ok (.ireturn, 1) := by decide +kernel
set_option maxRecDepth 20000 in
theorem is_j (d : Nat) {g : GX} {V : AH} {mo sz n i : Nat} {rk kn ar ac zf la dg : Int} {S : TSt} {Q : AQ} (hmo : V mo = some (moO mo rk kn ar ac)) (hT : RTb g mo V S) (hn : n < 12) (q1 : S.r n ≤ 5) (q3 : S.c n ≤ 5) (hi : i < S.r n) (qx : ∀ e, e < 25 → -1000 ≤ S.N n e ∧ S.N n e ≤ 1000) {jj : Nat} (hFF : FF (fun j => S.N n (5 * i + j)) (S.c n) jj) (hKK : AW g mX6_isStair (d + 1) 51 [(6, .int (iZ (jj : Int))), (5, .int (iZ (i : Int))), (4, .int (iZ zf)), (3, .int (iZ la)), (0, .ref mo), (1, .int (iZ (n : Int))), (2, .int (iZ dg))] [] V sz Q) : ∀ (f j : Nat), j + f = jj → AW g mX6_isStair (d + 1) 22 [(6, .int (iZ (j : Int))), (5, .int (iZ (i : Int))), (4, .int (iZ zf)), (3, .int (iZ la)), (0, .ref mo), (1, .int (iZ (n : Int))), (2, .int (iZ dg))] [] V sz Q
  | 0, j, hf => by
    obtain rfl : j = jj := by omega
    have hjc := hFF.1
    obtain ⟨TH, RR, CC, NN, HH, t1, t2, t3, t4, t5, t6⟩ := id hT
    refine aw_iload dX6_isStair_22 (by rfl) ?_
    refine aw_aload_n dX6_isStair_24 (by rfl) (Or.inr ⟨_, rfl⟩) ?_
    refine aw_get fX6_40 dX6_isStair_25 hmo (by rfl) ?_
    refine aw_iload_n dX6_isStair_28 (by rfl) ?_
    refine aw_ialdZ (n) dX6_isStair_29 t3 (by omega) (by omega) (by omega) ?_
    refine aw_icmp_geZ (tgt := 51) dX6_isStair_30 (by decide) (by omega) (by rw [(t6 n hn).2.2.1]; omega) (fun hc_30 => ?_) (fun hc_30 => ?_)
    · rw [(t6 n hn).2.2.1] at hc_30
      refine aw_pk [6, 5, 4, 3, 0, 1, 2] (by rfl) ?_
      exact hKK
    · rw [(t6 n hn).2.2.1] at hc_30
      refine aw_aload_n dX6_isStair_33 (by rfl) (Or.inr ⟨_, rfl⟩) ?_
      refine aw_iload_n dX6_isStair_34 (by rfl) ?_
      refine aw_iload dX6_isStair_35 (by rfl) ?_
      refine aw_iload dX6_isStair_37 (by rfl) ?_
      refine aw_callv vX6_148 dX6_isStair_39 hmo (m_at3 g d (t := n) (i := i) (j := j) hmo hT hn (by omega) (by omega)) (by rfl) (by rfl) (by omega) (Nat.le_of_ble_eq_true rfl) ?_
      rintro _ _ _ _ _ ⟨rfl, rfl, rfl, rfl, rfl⟩ -
      refine q0 ?_
      refine aw_if_neZ (tgt := 51) dX6_isStair_42 (by decide) (by have := qx (5 * i + j) (by omega); omega) (fun hc_42 => ?_) (fun hc_42 => ?_)
      · refine aw_pk [6, 5, 4, 3, 0, 1, 2] (by rfl) ?_
        exact hKK
      · exact absurd hc_42 (hFF.2.2 (by omega))
  | f + 1, j, hf => by
    have IH := fun j hj => @is_j d g V mo sz n i rk kn ar ac zf la dg S Q hmo hT hn q1 q3 hi qx jj hFF hKK f j hj
    obtain ⟨TH, RR, CC, NN, HH, t1, t2, t3, t4, t5, t6⟩ := id hT
    have hz : S.N n (5 * i + j) = 0 := hFF.2.1 j (by omega)
    have hjc := hFF.1
    refine aw_iload dX6_isStair_22 (by rfl) ?_
    refine aw_aload_n dX6_isStair_24 (by rfl) (Or.inr ⟨_, rfl⟩) ?_
    refine aw_get fX6_40 dX6_isStair_25 hmo (by rfl) ?_
    refine aw_iload_n dX6_isStair_28 (by rfl) ?_
    refine aw_ialdZ (n) dX6_isStair_29 t3 (by omega) (by omega) (by omega) ?_
    refine aw_icmp_geZ (tgt := 51) dX6_isStair_30 (by decide) (by omega) (by rw [(t6 n hn).2.2.1]; omega) (fun hc_30 => ?_) (fun hc_30 => ?_)
    · rw [(t6 n hn).2.2.1] at hc_30
      exact absurd hc_30 (by omega)
    · rw [(t6 n hn).2.2.1] at hc_30
      refine aw_aload_n dX6_isStair_33 (by rfl) (Or.inr ⟨_, rfl⟩) ?_
      refine aw_iload_n dX6_isStair_34 (by rfl) ?_
      refine aw_iload dX6_isStair_35 (by rfl) ?_
      refine aw_iload dX6_isStair_37 (by rfl) ?_
      refine aw_callv vX6_148 dX6_isStair_39 hmo (m_at3 g d (t := n) (i := i) (j := j) hmo hT hn (by omega) (by omega)) (by rfl) (by rfl) (by omega) (Nat.le_of_ble_eq_true rfl) ?_
      rintro _ _ _ _ _ ⟨rfl, rfl, rfl, rfl, rfl⟩ -
      refine q0 ?_
      refine aw_if_neZ (tgt := 51) dX6_isStair_42 (by decide) (by have := qx (5 * i + j) (by omega); omega) (fun hc_42 => ?_) (fun hc_42 => ?_)
      · exact absurd hz hc_42
      · refine aw_iincZ dX6_isStair_45 (by rfl) (by decide) ?_
        refine aw_goto (tgt := 22) dX6_isStair_48 (by decide) ?_
        rw [show ((j : Int) + 1) = ((j + 1 : Nat) : Int) by omega]
        refine aw_pk [6, 5, 4, 3, 0, 1, 2] (by rfl) ?_
        exact IH (j + 1) (by omega)
set_option maxRecDepth 20000 in
theorem is_k (d : Nat) {g : GX} {V : AH} {mo sz n i : Nat} {rk kn ar ac zf la dg : Int} {S : TSt} {Q : AQ} (hmo : V mo = some (moO mo rk kn ar ac)) (hT : RTb g mo V S) (hn : n < 12) (q1 : S.r n ≤ 5) (q3 : S.c n ≤ 5) (hi : i < S.r n) (qx : ∀ e, e < 25 → -1000 ≤ S.N n e ∧ S.N n e ≤ 1000) {j : Nat} (hj : j < S.c n) (hNo : (∃ k, k < i ∧ ¬ (0 ≤ S.N n (5 * k + j) ∧ S.N n (5 * k + j) < S.N n (5 * i + j))) → Q (some (.int (iZ 0))) V sz 0 0) (hKK : (∀ k, k < i → 0 ≤ S.N n (5 * k + j) ∧ S.N n (5 * k + j) < S.N n (5 * i + j)) → AW g mX6_isStair (d + 1) 144 [(6, .int (iZ (j : Int))), (5, .int (iZ (i : Int))), (4, .int (iZ zf)), (3, .int (iZ la)), (0, .ref mo), (1, .int (iZ (n : Int))), (2, .int (iZ dg))] [] V sz Q) : ∀ (f k : Nat), k + f = i → (∀ e, e < k → 0 ≤ S.N n (5 * e + j) ∧ S.N n (5 * e + j) < S.N n (5 * i + j)) → AW g mX6_isStair (d + 1) 96 [(7, .int (iZ (k : Int))), (6, .int (iZ (j : Int))), (5, .int (iZ (i : Int))), (4, .int (iZ zf)), (3, .int (iZ la)), (0, .ref mo), (1, .int (iZ (n : Int))), (2, .int (iZ dg))] [] V sz Q
  | 0, k, hf, hI => by
    obtain rfl : i = k := by omega
    refine aw_iload dX6_isStair_96 (by rfl) ?_
    refine aw_iload dX6_isStair_98 (by rfl) ?_
    refine aw_icmp_geZ (tgt := 144) dX6_isStair_100 (by decide) (by omega) (by omega) (fun hc_100 => ?_) (fun hc_100 => ?_)
    · refine aw_pk [6, 5, 4, 3, 0, 1, 2] (by rfl) ?_
      exact hKK (fun k hk => hI k (by omega))
    · exact absurd hc_100 (by omega)
  | f + 1, k, hf, hI => by
    have IH := fun k hk => @is_k d g V mo sz n i rk kn ar ac zf la dg S Q hmo hT hn q1 q3 hi qx j hj hNo hKK f k hk
    refine aw_iload dX6_isStair_96 (by rfl) ?_
    refine aw_iload dX6_isStair_98 (by rfl) ?_
    refine aw_icmp_geZ (tgt := 144) dX6_isStair_100 (by decide) (by omega) (by omega) (fun hc_100 => ?_) (fun hc_100 => ?_)
    · exact absurd hc_100 (by omega)
    · refine aw_aload_n dX6_isStair_103 (by rfl) (Or.inr ⟨_, rfl⟩) ?_
      refine aw_iload_n dX6_isStair_104 (by rfl) ?_
      refine aw_iload dX6_isStair_105 (by rfl) ?_
      refine aw_iload dX6_isStair_107 (by rfl) ?_
      refine aw_callv vX6_148 dX6_isStair_109 hmo (m_at3 g d (t := n) (i := k) (j := j) hmo hT hn (by omega) (by omega)) (by rfl) (by rfl) (by omega) (Nat.le_of_ble_eq_true rfl) ?_
      rintro _ _ _ _ _ ⟨rfl, rfl, rfl, rfl, rfl⟩ -
      refine q0 ?_
      refine aw_if_ltZ (tgt := 136) dX6_isStair_112 (by decide) (by have := qx (5 * k + j) (by omega); omega) (fun hc_112 => ?_) (fun hc_112 => ?_)
      · refine aw_iconstZ dX6_isStair_136 ?_
        refine aw_iret dX6_isStair_137 rfl (by rfl) ?_
        exact hNo ⟨k, by omega, by omega⟩
      · refine aw_aload_n dX6_isStair_115 (by rfl) (Or.inr ⟨_, rfl⟩) ?_
        refine aw_iload_n dX6_isStair_116 (by rfl) ?_
        refine aw_iload dX6_isStair_117 (by rfl) ?_
        refine aw_iload dX6_isStair_119 (by rfl) ?_
        refine aw_callv vX6_148 dX6_isStair_121 hmo (m_at3 g d (t := n) (i := k) (j := j) hmo hT hn (by omega) (by omega)) (by rfl) (by rfl) (by omega) (Nat.le_of_ble_eq_true rfl) ?_
        rintro _ _ _ _ _ ⟨rfl, rfl, rfl, rfl, rfl⟩ -
        refine q0 ?_
        refine aw_aload_n dX6_isStair_124 (by rfl) (Or.inr ⟨_, rfl⟩) ?_
        refine aw_iload_n dX6_isStair_125 (by rfl) ?_
        refine aw_iload dX6_isStair_126 (by rfl) ?_
        refine aw_iload dX6_isStair_128 (by rfl) ?_
        refine aw_callv vX6_148 dX6_isStair_130 hmo (m_at3 g d (t := n) (i := i) (j := j) hmo hT hn (by omega) (by omega)) (by rfl) (by rfl) (by omega) (Nat.le_of_ble_eq_true rfl) ?_
        rintro _ _ _ _ _ ⟨rfl, rfl, rfl, rfl, rfl⟩ -
        refine q0 ?_
        refine aw_icmp_ltZ (tgt := 138) dX6_isStair_133 (by decide) (by have := qx (5 * k + j) (by omega); omega) (by have := qx (5 * i + j) (by omega); omega) (fun hc_133 => ?_) (fun hc_133 => ?_)
        · refine aw_iincZ dX6_isStair_138 (by rfl) (by decide) ?_
          refine aw_goto (tgt := 96) dX6_isStair_141 (by decide) ?_
          rw [show ((k : Int) + 1) = ((k + 1 : Nat) : Int) by omega]
          refine aw_pk [7, 6, 5, 4, 3, 0, 1, 2] (by rfl) ?_
          refine IH (k + 1) (by omega) (fun e he => ?_)
          by_cases q : e = k
          · rw [q]; exact ⟨by omega, by omega⟩
          · exact hI e (by omega)
        · refine aw_iconstZ dX6_isStair_136 ?_
          refine aw_iret dX6_isStair_137 rfl (by rfl) ?_
          exact hNo ⟨k, by omega, by omega⟩
set_option maxRecDepth 20000 in
theorem is_d (d : Nat) {g : GX} {V : AH} {mo sz n i : Nat} {rk kn ar ac zf la dg : Int} {S : TSt} {Q : AQ} (hmo : V mo = some (moO mo rk kn ar ac)) (hT : RTb g mo V S) (hn : n < 12) (q1 : S.r n ≤ 5) (q3 : S.c n ≤ 5) (hi : i < S.r n) (qx : ∀ e, e < 25 → -1000 ≤ S.N n e ∧ S.N n e ≤ 1000) {j : Nat} (hj : j < S.c n) (hNo : (∃ k, j < k ∧ k < S.c n ∧ S.N n (5 * i + k) ≠ 0) → Q (some (.int (iZ 0))) V sz 0 0) (hKK : (∀ k, j < k → k < S.c n → S.N n (5 * i + k) = 0) → AW g mX6_isStair (d + 1) 231 [(6, .int (iZ (j : Int))), (5, .int (iZ (i : Int))), (4, .int (iZ zf)), (3, .int (iZ la)), (0, .ref mo), (1, .int (iZ (n : Int))), (2, .int (iZ dg))] [] V sz Q) : ∀ (f k : Nat), k + f = S.c n → (∀ e, j < e → e < k → S.N n (5 * i + e) = 0) → j < k → AW g mX6_isStair (d + 1) 200 [(7, .int (iZ (k : Int))), (6, .int (iZ (j : Int))), (5, .int (iZ (i : Int))), (4, .int (iZ zf)), (3, .int (iZ la)), (0, .ref mo), (1, .int (iZ (n : Int))), (2, .int (iZ dg))] [] V sz Q
  | 0, k, hf, hI, hjk => by
    obtain rfl : k = S.c n := by omega
    obtain ⟨TH, RR, CC, NN, HH, t1, t2, t3, t4, t5, t6⟩ := id hT
    refine aw_iload dX6_isStair_200 (by rfl) ?_
    refine aw_aload_n dX6_isStair_202 (by rfl) (Or.inr ⟨_, rfl⟩) ?_
    refine aw_get fX6_40 dX6_isStair_203 hmo (by rfl) ?_
    refine aw_iload_n dX6_isStair_206 (by rfl) ?_
    refine aw_ialdZ (n) dX6_isStair_207 t3 (by omega) (by omega) (by omega) ?_
    refine aw_icmp_geZ (tgt := 231) dX6_isStair_208 (by decide) (by omega) (by rw [(t6 n hn).2.2.1]; omega) (fun hc_208 => ?_) (fun hc_208 => ?_)
    · refine aw_pk [6, 5, 4, 3, 0, 1, 2] (by rfl) ?_
      exact hKK (fun k h1 h2 => hI k h1 (by omega))
    · rw [(t6 n hn).2.2.1] at hc_208
      exact absurd hc_208 (by omega)
  | f + 1, k, hf, hI, hjk => by
    have IH := fun k hk hI => @is_d d g V mo sz n i rk kn ar ac zf la dg S Q hmo hT hn q1 q3 hi qx j hj hNo hKK f k hk hI (by omega)
    obtain ⟨TH, RR, CC, NN, HH, t1, t2, t3, t4, t5, t6⟩ := id hT
    refine aw_iload dX6_isStair_200 (by rfl) ?_
    refine aw_aload_n dX6_isStair_202 (by rfl) (Or.inr ⟨_, rfl⟩) ?_
    refine aw_get fX6_40 dX6_isStair_203 hmo (by rfl) ?_
    refine aw_iload_n dX6_isStair_206 (by rfl) ?_
    refine aw_ialdZ (n) dX6_isStair_207 t3 (by omega) (by omega) (by omega) ?_
    refine aw_icmp_geZ (tgt := 231) dX6_isStair_208 (by decide) (by omega) (by rw [(t6 n hn).2.2.1]; omega) (fun hc_208 => ?_) (fun hc_208 => ?_)
    · rw [(t6 n hn).2.2.1] at hc_208
      exact absurd hc_208 (by omega)
    · refine aw_aload_n dX6_isStair_211 (by rfl) (Or.inr ⟨_, rfl⟩) ?_
      refine aw_iload_n dX6_isStair_212 (by rfl) ?_
      refine aw_iload dX6_isStair_213 (by rfl) ?_
      refine aw_iload dX6_isStair_215 (by rfl) ?_
      refine aw_callv vX6_148 dX6_isStair_217 hmo (m_at3 g d (t := n) (i := i) (j := k) hmo hT hn (by omega) (by omega)) (by rfl) (by rfl) (by omega) (Nat.le_of_ble_eq_true rfl) ?_
      rintro _ _ _ _ _ ⟨rfl, rfl, rfl, rfl, rfl⟩ -
      refine q0 ?_
      refine aw_if_eqZ (tgt := 225) dX6_isStair_220 (by decide) (by have := qx (5 * i + k) (by omega); omega) (fun hc_220 => ?_) (fun hc_220 => ?_)
      · refine aw_iincZ dX6_isStair_225 (by rfl) (by decide) ?_
        refine aw_goto (tgt := 200) dX6_isStair_228 (by decide) ?_
        rw [show ((k : Int) + 1) = ((k + 1 : Nat) : Int) by omega]
        refine aw_pk [7, 6, 5, 4, 3, 0, 1, 2] (by rfl) ?_
        refine IH (k + 1) (by omega) (fun e h1 h2 => ?_)
        by_cases q : e = k
        · rw [q]; exact hc_220
        · exact hI e h1 (by omega)
      · refine aw_iconstZ dX6_isStair_223 ?_
        refine aw_iret dX6_isStair_224 rfl (by rfl) ?_
        exact hNo ⟨k, by omega, by omega, hc_220⟩

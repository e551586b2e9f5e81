/-! ===== the reference: isStair, whole ===== -/
theorem IsI.dpos {S : TSt} {n i : Nat} {l : Nat → Nat} {dg zf la : Int} (I : IsI S n i i l dg zf la) (hd : dg = 1) (h0 : 0 < i) : 0 < S.N n (5 * (i - 1) + (i - 1)) := by
  have p := I.2.1.1.1 (i - 1) (by omega)
  have e : l (i - 1) = i - 1 := Classical.byContradiction (fun z => p.2.1 ((I.2.2.2.2.2 hd).1 (i - 1) (l (i - 1)) (by omega) p.1 (fun q => z q.symm)))
  have q := I.2.1.2.1 (i - 1) (by omega)
  rw [e] at q
  exact q
set_option maxRecDepth 20000 in
theorem is_out (d : Nat) {g : GX} {V : AH} {mo sz n : Nat} {rk kn ar ac dg q : Int} {S : TSt} (hmo : V mo = some (moO mo rk kn ar ac)) (hT : RTb g mo V S) (hn : n < 12) (q1 : S.r n ≤ 5) (q3 : S.c n ≤ 5) (qx : ∀ e, e < 25 → -1000 ≤ S.N n e ∧ S.N n e ≤ 1000) (hdg : dg = 0 ∨ dg = 1) (hq : (q = 1 ∧ IsP S n dg) ∨ (q = 0 ∧ ¬ IsP S n dg)) : ∀ (f i : Nat) {h : Nat} {l : Nat → Nat} {zf la : Int}, i + f = S.r n → IsI S n i h l dg zf la → AW g mX6_isStair (d + 1) 8 [(5, .int (iZ (i : Int))), (4, .int (iZ zf)), (3, .int (iZ la)), (0, .ref mo), (1, .int (iZ (n : Int))), (2, .int (iZ dg))] [] V sz (Ex (some (.int (iZ q))) V sz 0 0)
  | 0, i, h, l, zf, la, hf, hI => by
    obtain rfl : i = S.r n := by omega
    obtain ⟨TH, RR, CC, NN, HH, t1, t2, t3, t4, t5, t6⟩ := id hT
    have hzf := hI.2.2.2.1
    have hla := hI.2.2.2.2.1
    refine aw_iload dX6_isStair_8 (by rfl) ?_
    refine aw_aload_n dX6_isStair_10 (by rfl) (Or.inr ⟨_, rfl⟩) ?_
    refine aw_get fX6_37 dX6_isStair_11 hmo (by rfl) ?_
    refine aw_iload_n dX6_isStair_14 (by rfl) ?_
    refine aw_ialdZ (n) dX6_isStair_15 t2 (by omega) (by omega) (by omega) ?_
    refine aw_icmp_geZ (tgt := 237) dX6_isStair_16 (by decide) (by omega) (by rw [(t6 n hn).2.1]; omega) (fun hc_16 => ?_) (fun hc_16 => ?_)
    · refine aw_iconstZ dX6_isStair_237 ?_
      refine aw_iret dX6_isStair_238 rfl (by rfl) ?_
      rcases hq with ⟨rfl, -⟩ | ⟨rfl, h2⟩
      · exact ⟨rfl, rfl, rfl, rfl, rfl⟩
      · exact absurd hI.fin h2
    · rw [(t6 n hn).2.1] at hc_16
      exact absurd hc_16 (by omega)
  | f + 1, i, h, l, zf, la, hf, hI => by
    have IH := fun i {h : Nat} {l : Nat → Nat} {zf la : Int} hi => @is_out d g V mo sz n rk kn ar ac dg q S hmo hT hn q1 q3 qx hdg hq f i h l zf la hi
    obtain ⟨TH, RR, CC, NN, HH, t1, t2, t3, t4, t5, t6⟩ := id hT
    have hzf := hI.2.2.2.1
    have hla := hI.2.2.2.2.1
    obtain ⟨jj, hFF⟩ := FF.ex (fun j => S.N n (5 * i + j)) (S.c n)
    have hjle := hFF.1
    refine aw_iload dX6_isStair_8 (by rfl) ?_
    refine aw_aload_n dX6_isStair_10 (by rfl) (Or.inr ⟨_, rfl⟩) ?_
    refine aw_get fX6_37 dX6_isStair_11 hmo (by rfl) ?_
    refine aw_iload_n dX6_isStair_14 (by rfl) ?_
    refine aw_ialdZ (n) dX6_isStair_15 t2 (by omega) (by omega) (by omega) ?_
    refine aw_icmp_geZ (tgt := 237) dX6_isStair_16 (by decide) (by omega) (by rw [(t6 n hn).2.1]; omega) (fun hc_16 => ?_) (fun hc_16 => ?_)
    · rw [(t6 n hn).2.1] at hc_16
      exact absurd hc_16 (by omega)
    · refine aw_iconstZ dX6_isStair_19 ?_
      refine aw_istore dX6_isStair_20 (by decide) ?_
      refine aw_pk [6, 5, 4, 3, 0, 1, 2] (by rfl) ?_
      refine is_j d hmo hT hn q1 q3 (by omega) qx hFF ?_ jj 0 (by omega)
      refine aw_iload dX6_isStair_51 (by rfl) ?_
      refine aw_aload_n dX6_isStair_53 (by rfl) (Or.inr ⟨_, rfl⟩) ?_
      refine aw_get fX6_40 dX6_isStair_54 hmo (by rfl) ?_
      refine aw_iload_n dX6_isStair_57 (by rfl) ?_
      refine aw_ialdZ (n) dX6_isStair_58 t3 (by omega) (by omega) (by omega) ?_
      refine aw_icmp_neZ (tgt := 68) dX6_isStair_59 (by decide) (by omega) (by rw [(t6 n hn).2.2.1]; omega) (fun hc_59 => ?_) (fun hc_59 => ?_)
      · rw [(t6 n hn).2.2.1] at hc_59
        have hjc : jj < S.c n := by omega
        have hlR : R32 la := by
          rw [hla]
          split
          · omega
          · have := (hI.2.1.1.1 (h - 1) (by omega)).1; omega
        refine aw_iload dX6_isStair_68 (by rfl) ?_
        refine aw_if_neZ (tgt := 91) dX6_isStair_70 (by decide) (by rw [hzf]; split <;> omega) (fun hc_70 => ?_) (fun hc_70 => ?_)
        · refine aw_iconstZ dX6_isStair_91 ?_
          refine aw_iret dX6_isStair_92 rfl (by rfl) ?_
          first
          | (rcases hq with ⟨rfl, hP⟩ | ⟨rfl, -⟩
             · obtain ⟨u1, u2, u3, u4, u5⟩ := hI.must (by omega) hFF (by omega) hP
               exact absurd u1 (by rw [hzf] at hc_70; split at hc_70 <;> omega)
             · exact ⟨rfl, rfl, rfl, rfl, rfl⟩)
          | (rcases hq with ⟨rfl, hP⟩ | ⟨rfl, -⟩
             · obtain ⟨u1, u2, u3, u4, u5⟩ := hI.must (by omega) hFF (by omega) hP
               exact absurd u2 (by omega)
             · exact ⟨rfl, rfl, rfl, rfl, rfl⟩)
          | (rcases hq with ⟨rfl, hP⟩ | ⟨rfl, -⟩
             · obtain ⟨u1, u2, u3, u4, u5⟩ := hI.must (by omega) hFF (by omega) hP
               exact absurd u3 (by omega)
             · exact ⟨rfl, rfl, rfl, rfl, rfl⟩)
        · have hhi : i = h := by have := hI.1; rw [hzf] at hc_70; split at hc_70 <;> omega
          subst hhi
          have hzf0 : zf = 0 := hc_70
          refine aw_iload dX6_isStair_73 (by rfl) ?_
          refine aw_iload_n dX6_isStair_75 (by rfl) ?_
          refine aw_icmp_leZ (tgt := 91) dX6_isStair_76 (by decide) (by omega) hlR (fun hc_76 => ?_) (fun hc_76 => ?_)
          · refine aw_iconstZ dX6_isStair_91 ?_
            refine aw_iret dX6_isStair_92 rfl (by rfl) ?_
            first
            | (rcases hq with ⟨rfl, hP⟩ | ⟨rfl, -⟩
               · obtain ⟨u1, u2, u3, u4, u5⟩ := hI.must (by omega) hFF (by omega) hP
                 exact absurd u1 (by rw [hzf] at hc_70; split at hc_70 <;> omega)
               · exact ⟨rfl, rfl, rfl, rfl, rfl⟩)
            | (rcases hq with ⟨rfl, hP⟩ | ⟨rfl, -⟩
               · obtain ⟨u1, u2, u3, u4, u5⟩ := hI.must (by omega) hFF (by omega) hP
                 exact absurd u2 (by omega)
               · exact ⟨rfl, rfl, rfl, rfl, rfl⟩)
            | (rcases hq with ⟨rfl, hP⟩ | ⟨rfl, -⟩
               · obtain ⟨u1, u2, u3, u4, u5⟩ := hI.must (by omega) hFF (by omega) hP
                 exact absurd u3 (by omega)
               · exact ⟨rfl, rfl, rfl, rfl, rfl⟩)
          · refine aw_aload_n dX6_isStair_79 (by rfl) (Or.inr ⟨_, rfl⟩) ?_
            refine aw_iload_n dX6_isStair_80 (by rfl) ?_
            refine aw_iload dX6_isStair_81 (by rfl) ?_
            refine aw_iload dX6_isStair_83 (by rfl) ?_
            refine aw_callv vX6_148 dX6_isStair_85 hmo (m_at3 g d (t := n) (i := i) (j := jj) hmo hT hn (by omega) (by omega)) (by rfl) (by rfl) (by omega) (Nat.le_of_ble_eq_true rfl) ?_
            rintro _ _ _ _ _ ⟨rfl, rfl, rfl, rfl, rfl⟩ -
            refine q0 ?_
            refine aw_if_geZ (tgt := 93) dX6_isStair_88 (by decide) (by have := qx (5 * i + jj) (by omega); omega) (fun hc_88 => ?_) (fun hc_88 => ?_)
            · refine aw_iconstZ dX6_isStair_93 ?_
              refine aw_istore dX6_isStair_94 (by decide) ?_
              refine aw_pk [7, 6, 5, 4, 3, 0, 1, 2] (by rfl) ?_
              refine is_k d hmo hT hn q1 q3 (by omega) qx (j := jj) hjc (fun hzz => ?_) (fun hab => ?_) i 0 (by omega) (fun e he => absurd he (by omega))
              · obtain ⟨k, z1, z2⟩ := hzz
                rcases hq with ⟨rfl, hP⟩ | ⟨rfl, -⟩
                · obtain ⟨u1, u2, u3, u4, u5⟩ := hI.must (by omega) hFF (by omega) hP
                  exact absurd (u4 k z1) z2
                · exact ⟨rfl, rfl, rfl, rfl, rfl⟩
              · rw [hzf0]
                refine aw_iload dX6_isStair_144 (by rfl) ?_
                refine aw_istore_n dX6_isStair_146 (by decide) ?_
                refine aw_iload_n dX6_isStair_147 (by rfl) ?_
                refine aw_if_neZ (tgt := 154) dX6_isStair_148 (by decide) (by omega) (fun hc_148 => ?_) (fun hc_148 => ?_)
                · have hd1 : dg = 1 := by omega
                  refine aw_iload dX6_isStair_154 (by rfl) ?_
                  refine aw_iload dX6_isStair_156 (by rfl) ?_
                  refine aw_icmp_neZ (tgt := 192) dX6_isStair_158 (by decide) (by omega) (by omega) (fun hc_158 => ?_) (fun hc_158 => ?_)
                  · refine aw_iconstZ dX6_isStair_192 ?_
                    refine aw_iret dX6_isStair_193 rfl (by rfl) ?_
                    first
                    | (rcases hq with ⟨rfl, hP⟩ | ⟨rfl, -⟩
                       · obtain ⟨u1, u2, u3, u4, u5⟩ := hI.must (by omega) hFF (by omega) hP
                         exact absurd (u5 hd1).1 (by omega)
                       · exact ⟨rfl, rfl, rfl, rfl, rfl⟩)
                    | (rcases hq with ⟨rfl, hP⟩ | ⟨rfl, -⟩
                       · obtain ⟨u1, u2, u3, u4, u5⟩ := hI.must (by omega) hFF (by omega) hP
                         exact absurd ((tmod_pos (by omega) (by rw [show jj - 1 = i - 1 by omega]; exact hI.dpos hd1 (by omega))).mpr (by rw [show jj - 1 = i - 1 by omega, hji]; exact (u5 hd1).2.1 (by omega))) hndv
                       · exact ⟨rfl, rfl, rfl, rfl, rfl⟩)
                  · have hji : jj = i := by omega
                    refine aw_iload dX6_isStair_161 (by rfl) ?_
                    refine aw_if_leZ (tgt := 194) dX6_isStair_163 (by decide) (by omega) (fun hc_163 => ?_) (fun hc_163 => ?_)
                    · have hdv : 0 < i → S.N n (5 * (i - 1) + (i - 1)) ∣ S.N n (5 * i + i) := fun z => absurd z (by omega)
                      refine aw_iload dX6_isStair_194 (by rfl) ?_
                      refine aw_iconstZ dX6_isStair_196 ?_
                      refine aw_iaddZ dX6_isStair_197 ?_
                      refine aw_istore dX6_isStair_198 (by decide) ?_
                      rw [show ((jj : Int) + 1) = ((jj + 1 : Nat) : Int) by omega]
                      refine aw_pk [7, 6, 5, 4, 3, 0, 1, 2] (by rfl) ?_
                      refine is_d d hmo hT hn q1 q3 (by omega) qx (j := jj) hjc (fun hzz => ?_) (fun hr => ?_) (S.c n - (jj + 1)) (jj + 1) (by omega) (fun e h1 h2 => absurd h1 (by omega)) (by omega)
                      · obtain ⟨k, z1, z2, z3⟩ := hzz
                        rcases hq with ⟨rfl, hP⟩ | ⟨rfl, -⟩
                        · obtain ⟨u1, u2, u3, u4, u5⟩ := hI.must (by omega) hFF (by omega) hP
                          exact absurd ((u5 hd1).2.2 k z1 z2) z3
                        · exact ⟨rfl, rfl, rfl, rfl, rfl⟩
                      · refine aw_iincZ dX6_isStair_231 (by rfl) (by decide) ?_
                        refine aw_goto (tgt := 8) dX6_isStair_234 (by decide) ?_
                        rw [show ((i : Int) + 1) = ((i + 1 : Nat) : Int) by omega]
                        refine aw_pk [5, 4, 3, 0, 1, 2] (by rfl) ?_
                        exact IH (i + 1) (by omega) (hI.next hFF hjc (by omega) (by omega) hab (fun _ => ⟨hji, hdv, hr⟩))
                    · refine aw_aload_n dX6_isStair_166 (by rfl) (Or.inr ⟨_, rfl⟩) ?_
                      refine aw_iload_n dX6_isStair_167 (by rfl) ?_
                      refine aw_iload dX6_isStair_168 (by rfl) ?_
                      refine aw_iload dX6_isStair_170 (by rfl) ?_
                      refine aw_callv vX6_148 dX6_isStair_172 hmo (m_at3 g d (t := n) (i := i) (j := jj) hmo hT hn (by omega) (by omega)) (by rfl) (by rfl) (by omega) (Nat.le_of_ble_eq_true rfl) ?_
                      rintro _ _ _ _ _ ⟨rfl, rfl, rfl, rfl, rfl⟩ -
                      refine q0 ?_
                      refine aw_aload_n dX6_isStair_175 (by rfl) (Or.inr ⟨_, rfl⟩) ?_
                      refine aw_iload_n dX6_isStair_176 (by rfl) ?_
                      refine aw_iload dX6_isStair_177 (by rfl) ?_
                      refine aw_iconstZ dX6_isStair_179 ?_
                      refine aw_isubZ dX6_isStair_180 ?_
                      refine aw_iload dX6_isStair_181 (by rfl) ?_
                      refine aw_iconstZ dX6_isStair_183 ?_
                      refine aw_isubZ dX6_isStair_184 ?_
                      rw [show ((i : Int) - 1) = ((i - 1 : Nat) : Int) by omega, show ((jj : Int) - 1) = ((jj - 1 : Nat) : Int) by omega]
                      refine aw_callv vX6_148 dX6_isStair_185 hmo (m_at3 g d (t := n) (i := i - 1) (j := jj - 1) hmo hT hn (by omega) (by omega)) (by rfl) (by rfl) (by omega) (Nat.le_of_ble_eq_true rfl) ?_
                      rintro _ _ _ _ _ ⟨rfl, rfl, rfl, rfl, rfl⟩ -
                      refine q0 ?_
                      have h8 : 0 < S.N n (5 * (i - 1) + (jj - 1)) := by
                        rw [show jj - 1 = i - 1 by omega]
                        exact hI.dpos hd1 (by omega)
                      refine aw_iremZ dX6_isStair_188 (by have := qx (5 * i + jj) (by omega); omega) (by have := qx (5 * (i - 1) + (jj - 1)) (by omega); omega) h8 ?_
                      refine aw_if_eqZ (tgt := 194) dX6_isStair_189 (by decide) (by rw [Int.tmod_eq_emod_of_nonneg (by omega)]; have := qx (5 * (i - 1) + (jj - 1)) (by omega); have := Int.emod_lt_of_pos (S.N n (5 * i + jj)) h8; have := Int.emod_nonneg (S.N n (5 * i + jj)) (show S.N n (5 * (i - 1) + (jj - 1)) ≠ 0 by omega); omega) (fun hc_189 => ?_) (fun hc_189 => ?_)
                      · have hdv : 0 < i → S.N n (5 * (i - 1) + (i - 1)) ∣ S.N n (5 * i + i) := fun _ => by
                          have h9 := (tmod_pos (by omega) (by rw [show jj - 1 = i - 1 by omega]; exact hI.dpos hd1 (by omega))).mp hc_189
                          rw [show jj - 1 = i - 1 by omega] at h9
                          rwa [hji] at h9
                        refine aw_iload dX6_isStair_194 (by rfl) ?_
                        refine aw_iconstZ dX6_isStair_196 ?_
                        refine aw_iaddZ dX6_isStair_197 ?_
                        refine aw_istore dX6_isStair_198 (by decide) ?_
                        rw [show ((jj : Int) + 1) = ((jj + 1 : Nat) : Int) by omega]
                        refine aw_pk [7, 6, 5, 4, 3, 0, 1, 2] (by rfl) ?_
                        refine is_d d hmo hT hn q1 q3 (by omega) qx (j := jj) hjc (fun hzz => ?_) (fun hr => ?_) (S.c n - (jj + 1)) (jj + 1) (by omega) (fun e h1 h2 => absurd h1 (by omega)) (by omega)
                        · obtain ⟨k, z1, z2, z3⟩ := hzz
                          rcases hq with ⟨rfl, hP⟩ | ⟨rfl, -⟩
                          · obtain ⟨u1, u2, u3, u4, u5⟩ := hI.must (by omega) hFF (by omega) hP
                            exact absurd ((u5 hd1).2.2 k z1 z2) z3
                          · exact ⟨rfl, rfl, rfl, rfl, rfl⟩
                        · refine aw_iincZ dX6_isStair_231 (by rfl) (by decide) ?_
                          refine aw_goto (tgt := 8) dX6_isStair_234 (by decide) ?_
                          rw [show ((i : Int) + 1) = ((i + 1 : Nat) : Int) by omega]
                          refine aw_pk [5, 4, 3, 0, 1, 2] (by rfl) ?_
                          exact IH (i + 1) (by omega) (hI.next hFF hjc (by omega) (by omega) hab (fun _ => ⟨hji, hdv, hr⟩))
                      · have hndv := hc_189
                        refine aw_iconstZ dX6_isStair_192 ?_
                        refine aw_iret dX6_isStair_193 rfl (by rfl) ?_
                        first
                        | (rcases hq with ⟨rfl, hP⟩ | ⟨rfl, -⟩
                           · obtain ⟨u1, u2, u3, u4, u5⟩ := hI.must (by omega) hFF (by omega) hP
                             exact absurd (u5 hd1).1 (by omega)
                           · exact ⟨rfl, rfl, rfl, rfl, rfl⟩)
                        | (rcases hq with ⟨rfl, hP⟩ | ⟨rfl, -⟩
                           · obtain ⟨u1, u2, u3, u4, u5⟩ := hI.must (by omega) hFF (by omega) hP
                             exact absurd ((tmod_pos (by omega) (by rw [show jj - 1 = i - 1 by omega]; exact hI.dpos hd1 (by omega))).mpr (by rw [show jj - 1 = i - 1 by omega, hji]; exact (u5 hd1).2.1 (by omega))) hndv
                           · exact ⟨rfl, rfl, rfl, rfl, rfl⟩)
                · refine aw_goto (tgt := 231) dX6_isStair_151 (by decide) ?_
                  refine aw_iincZ dX6_isStair_231 (by rfl) (by decide) ?_
                  refine aw_goto (tgt := 8) dX6_isStair_234 (by decide) ?_
                  rw [show ((i : Int) + 1) = ((i + 1 : Nat) : Int) by omega]
                  refine aw_pk [5, 4, 3, 0, 1, 2] (by rfl) ?_
                  exact IH (i + 1) (by omega) (hI.next hFF hjc (by omega) (by omega) hab (fun z => absurd z (by omega)))
            · refine aw_iconstZ dX6_isStair_91 ?_
              refine aw_iret dX6_isStair_92 rfl (by rfl) ?_
              first
              | (rcases hq with ⟨rfl, hP⟩ | ⟨rfl, -⟩
                 · obtain ⟨u1, u2, u3, u4, u5⟩ := hI.must (by omega) hFF (by omega) hP
                   exact absurd u1 (by rw [hzf] at hc_70; split at hc_70 <;> omega)
                 · exact ⟨rfl, rfl, rfl, rfl, rfl⟩)
              | (rcases hq with ⟨rfl, hP⟩ | ⟨rfl, -⟩
                 · obtain ⟨u1, u2, u3, u4, u5⟩ := hI.must (by omega) hFF (by omega) hP
                   exact absurd u2 (by omega)
                 · exact ⟨rfl, rfl, rfl, rfl, rfl⟩)
              | (rcases hq with ⟨rfl, hP⟩ | ⟨rfl, -⟩
                 · obtain ⟨u1, u2, u3, u4, u5⟩ := hI.must (by omega) hFF (by omega) hP
                   exact absurd u3 (by omega)
                 · exact ⟨rfl, rfl, rfl, rfl, rfl⟩)
      · rw [(t6 n hn).2.2.1] at hc_59
        have hjc : jj = S.c n := by omega
        refine aw_iconstZ dX6_isStair_62 ?_
        refine aw_istore dX6_isStair_63 (by decide) ?_
        refine aw_goto (tgt := 231) dX6_isStair_65 (by decide) ?_
        refine aw_iincZ dX6_isStair_231 (by rfl) (by decide) ?_
        refine aw_goto (tgt := 8) dX6_isStair_234 (by decide) ?_
        rw [show ((i : Int) + 1) = ((i + 1 : Nat) : Int) by omega]
        refine aw_pk [5, 4, 3, 0, 1, 2] (by rfl) ?_
        exact IH (i + 1) (by omega) (hI.zero (fun j hj => hFF.2.1 j (by omega)))
theorem m_isStair (g : GX) (d : Nat) {V : AH} {mo sz n : Nat} {rk kn ar ac dg q : Int} {S : TSt} (hmo : V mo = some (moO mo rk kn ar ac)) (hT : RTb g mo V S) (hn : n < 12) (q1 : S.r n ≤ 5) (q3 : S.c n ≤ 5) (qx : ∀ e, e < 25 → -1000 ≤ S.N n e ∧ S.N n e ≤ 1000) (hdg : dg = 0 ∨ dg = 1) (hq : (q = 1 ∧ IsP S n dg) ∨ (q = 0 ∧ ¬ IsP S n dg)) : AMet g mX6_isStair (d + 1) [.ref mo, .int (iZ (n : Int)), .int (iZ dg)] V sz (Ex (some (.int (iZ q))) V sz 0 0) := by
  refine AMet.of rfl rfl (Nat.le_of_ble_eq_true rfl) ?_
  show AW g mX6_isStair (d + 1) 0 [(0, .ref mo), (1, .int (iZ (n : Int))), (2, .int (iZ dg))] [] V sz _
  refine aw_iconstZ dX6_isStair_0 ?_
  refine aw_istore_n dX6_isStair_1 (by decide) ?_
  refine aw_iconstZ dX6_isStair_2 ?_
  refine aw_istore dX6_isStair_3 (by decide) ?_
  refine aw_iconstZ dX6_isStair_5 ?_
  refine aw_istore dX6_isStair_6 (by decide) ?_
  refine aw_pk [5, 4, 3, 0, 1, 2] (by rfl) ?_
  exact is_out d hmo hT hn q1 q3 qx hdg hq (S.r n) 0 (h := 0) (l := fun _ => 0) (by omega) ⟨Nat.le_refl _, Stair.nil, fun a j h1 h2 => absurd h2 (by omega), rfl, rfl, fun _ => ⟨fun a j ha => absurd ha (by omega), fun k hk => absurd hk (by omega)⟩⟩

/-! ===== the reference: divides, whole ===== -/
def DvQ (g : GX) (mo : Nat) (zs : Nat → Int) (a e c ne : Nat) : Option Value → AH → Prop := fun r V' => none = r ∧ ∃ D' LN' SG' X1 X2 : Nat → Int, MA g mo V' D' LN' SG' X1 X2 ∧ (∀ q, q < 460 → NuV D' LN' SG' q (upF zs c ((zs a).tdiv (zs e)) q)) ∧ (∀ i, i < ne → 0 ≤ X1 i ∧ X1 i < 268435456) ∧ mg 268435456 X1 ne = ((zs a).natAbs : Int) % ((zs e).natAbs : Int)
theorem dm_first {N ne na : Nat} {f x y : Int} (hN : N = na - ne + 1) (hne : 1 ≤ ne ∧ ne ≤ na) (hf : 1 ≤ f) (hx : x < 268435456 ^ na) (hy : 268435456 ^ (ne - 1) ≤ y) : f * x < f * y * 268435456 ^ N := by
  rw [Int.mul_assoc]
  refine Int.mul_lt_mul_of_pos_left ?_ (by omega)
  have h1 : (268435456 : Int) ^ (ne - 1) * 268435456 ^ N ≤ y * 268435456 ^ N := Int.mul_le_mul_of_nonneg_right hy (by have := pw_pos (show (0 : Int) < 268435456 by omega) N; omega)
  rw [← Int.pow_add, show ne - 1 + N = na by omega] at h1
  omega
theorem td_sign {a b : Int} (h : a.tdiv b ≠ 0) : a.sign * b.sign = (a.tdiv b).sign := by
  have h2 : ¬ a.natAbs < b.natAbs := fun q => h (by
    have := Int.natAbs_tdiv a b
    rw [show a.natAbs.div b.natAbs = a.natAbs / b.natAbs from rfl, Nat.div_eq_of_lt q] at this
    omega)
  rw [Int.sign_tdiv, if_neg h2]
theorem td_abs (a b : Int) : ((a.tdiv b).natAbs : Int) = (a.natAbs : Int) / (b.natAbs : Int) := by
  rw [Int.natAbs_tdiv]
  rfl
theorem sm_loop (d : Nat) {g : GX} {mo sz : Nat} {rk kn ar ac : Int} {D LN SG O2 : Nat → Int} {V0 : AH} {a e c na ne : Nat} {s : Int} {Q : AQ} (ha : a < 460) (hn : LN a = (na : Int)) (hna : na ≤ 100) (hne : ne ≤ 100) (hFa : ∀ i, i < na → 0 ≤ dg D a i ∧ dg D a i < 268435456)
    (hKK : ∀ {V : AH} {X : Nat → Int}, V mo = some (moO mo rk kn ar ac) → MA g mo V D LN SG X O2 → (∀ a, ¬ EN mo a → V a = V0 a) → (∀ i, i < ne → X i = pad (dg D a) na i) → AW g mX6_divides (d + 1) 71 [(6, .int (iZ s)), (5, .int (iZ na)), (4, .int (iZ ne)), (0, .ref mo), (1, .int (iZ a)), (2, .int (iZ e)), (3, .int (iZ c))] [] V sz Q) : ∀ (y k : Nat), k + y = ne → ∀ {V : AH} {X : Nat → Int}, V mo = some (moO mo rk kn ar ac) → MA g mo V D LN SG X O2 → (∀ a, ¬ EN mo a → V a = V0 a) → (∀ i, i < k → X i = pad (dg D a) na i) → AW g mX6_divides (d + 1) 43 [(7, .int (iZ k)), (6, .int (iZ s)), (5, .int (iZ na)), (4, .int (iZ ne)), (0, .ref mo), (1, .int (iZ a)), (2, .int (iZ e)), (3, .int (iZ c))] [] V sz Q
  | 0, k, hy, V, X, hmo, hA, hV, hX => by
    refine aw_iload dX6_divides_43 (by rfl) ?_
    refine aw_iload dX6_divides_45 (by rfl) ?_
    refine aw_icmp_geZ (tgt := 71) dX6_divides_47 (by decide) (by omega) (by omega) (fun hc_47 => ?_) (fun hc_47 => ?_)
    · obtain rfl : k = ne := by omega
      exact aw_pk [6, 5, 4, 0, 1, 2, 3] (by rfl) (hKK hmo hA hV hX)
    · exact absurd hc_47 (by omega)
  | y + 1, k, hy, V, X, hmo, hA, hV, hX => by
    have IH := fun k hk => @sm_loop d g mo sz rk kn ar ac D LN SG O2 V0 a e c na ne s Q ha hn hna hne hFa hKK y k hk
    clear hKK
    have hpR : R32 (pad (dg D a) na k) := by
      unfold pad
      split
      · have := hFa k (by omega); omega
      · omega
    refine aw_iload dX6_divides_43 (by rfl) ?_
    refine aw_iload dX6_divides_45 (by rfl) ?_
    refine aw_icmp_geZ (tgt := 71) dX6_divides_47 (by decide) (by omega) (by omega) (fun hc_47 => ?_) (fun hc_47 => ?_)
    · exact absurd hc_47 (by omega)
    · refine aw_aload_n dX6_divides_50 (by rfl) (Or.inr ⟨_, rfl⟩) ?_
      refine aw_get fX6_20 dX6_divides_51 hmo (by rfl) ?_
      refine aw_iload dX6_divides_54 (by rfl) ?_
      refine aw_aload_n dX6_divides_56 (by rfl) (Or.inr ⟨_, rfl⟩) ?_
      refine aw_iload_n dX6_divides_57 (by rfl) ?_
      refine aw_iload dX6_divides_58 (by rfl) ?_
      refine aw_callv vX6_75 dX6_divides_60 hmo (m_at d (c := a) (k := k) hmo hA ha hn hna (by omega)) (by rfl) (by rfl) (by omega) (Nat.le_of_ble_eq_true rfl) ?_
      rintro _ _ _ _ _ ⟨rfl, rfl, rfl, rfl, rfl⟩ -
      refine q0 ?_
      refine aw_i2lZ dX6_divides_63 hpR ?_
      refine aw_lastZ (k) dX6_divides_64 hA.2.2.2.1 (by omega) (by omega) (by omega) ?_
      refine aw_iincZ dX6_divides_65 (by rfl) (by decide) ?_
      refine aw_goto (tgt := 43) dX6_divides_68 (by decide) ?_
      rw [show ((k : Int) + 1) = ((k + 1 : Nat) : Int) by omega]
      refine aw_pk [7, 6, 5, 4, 0, 1, 2, 3] (by rfl) ?_
      exact IH (k + 1) (by omega) ((AHu_ne (by omega)).trans hmo) hA.o1 (fun a ha => (AHu_ne (fun z => ha (by unfold EN; omega))).trans (hV a ha)) (fun i hi => by
        by_cases c1 : i = k
        · rw [c1, upF_self]
        · rw [upF_ne _ _ c1]; exact hX i (by omega))
theorem m_divides (g : GX) (d : Nat) {V : AH} {mo sz a e c ne : Nat} {rk kn ar ac : Int} {D LN SG O1 O2 zs : Nat → Int} (hmo : V mo = some (moO mo rk kn ar ac)) (hA : MA g mo V D LN SG O1 O2) (h0 : ∀ q, q < 460 → NuV D LN SG q (zs q)) (ha : a < 460) (he : e < 460) (hc : c < 460) (hca : a ≠ c) (hce : e ≠ c) (hz : zs e ≠ 0) (hn : LN e = (ne : Int)) : AMet g mX6_divides (d + 1) [.ref mo, .int (iZ a), .int (iZ e), .int (iZ c)] V sz (VX V sz (EN mo) (DvQ g mo zs a e c ne)) := by
  obtain ⟨na, a1, a2, hsa, a4, a5, a6⟩ := id (h0 a ha)
  obtain ⟨n2, b1, b2, hse, b4, b5, b6⟩ := id (h0 e he)
  obtain rfl : n2 = ne := by omega
  have hne1 : 1 ≤ n2 := by
    rcases Nat.eq_zero_or_pos n2 with h | h
    · rw [h] at b5
      have : (0 : Int) = ((zs e).natAbs : Int) := b5
      omega
    · exact h
  obtain ⟨s, hs⟩ : ∃ s, SG a * SG e = s := ⟨_, rfl⟩
  have hs32 : R32 s := by
    rw [← hs, hsa, hse, ← Int.sign_mul]
    exact sgn_R _
  have SMALL : ((zs a).natAbs : Int) < ((zs e).natAbs : Int) → AW g mX6_divides (d + 1) 43 [(7, .int (iZ (0 : Nat))), (6, .int (iZ s)), (5, .int (iZ na)), (4, .int (iZ n2)), (0, .ref mo), (1, .int (iZ a)), (2, .int (iZ e)), (3, .int (iZ c))] [] V sz (VX V sz (EN mo) (DvQ g mo zs a e c n2)) := fun hlt => by
    have hle : na ≤ n2 := by
      rcases Nat.lt_or_ge n2 na with h | h
      · have := mg_len_lt (show (1 : Int) < 268435456 by omega) b4 a4 a6 h
        omega
      · exact h
    refine sm_loop d (V0 := V) ha a1 a2 b2 a4 (fun {V1 X} hmo1 hA1 hV1 hX1 => ?_) n2 0 (by omega) hmo hA (fun _ _ => rfl) (fun i hi => absurd hi (by omega))
    refine aw_aload_n dX6_divides_71 (by rfl) (Or.inr ⟨_, rfl⟩) ?_
    refine aw_iload_n dX6_divides_72 (by rfl) ?_
    refine aw_lconstZ (z := 0) dX6_divides_73 (by decide) ?_
    refine aw_callv vX6_83 dX6_divides_74 hmo1 (m_becomesL g d (c := c) (v := 0) ⟨rk, kn, ar, ac, hmo1⟩ ⟨D, LN, SG, X, O2, hA1, h0⟩ hc (by omega)) (by rfl) (by rfl) (by omega) (Nat.le_of_ble_eq_true rfl) ?_
    rintro _ V2 _ _ _ ⟨rfl, rfl, rfl, hE2, rfl, D2, LN2, SG2, Y1, Y2, hA2, hN2⟩ -
    refine q0 ?_
    have hA3 := ma_o hA1 hA2 hE2
    refine aw_ret dX6_divides_77 rfl ?_
    refine ⟨rfl, rfl, rfl, fun a ha => (hE2 a (fun q => ha (el_en q))).trans (hV1 a ha), rfl, D2, LN2, SG2, X, O2, hA3, ?_, ?_, ?_⟩
    · rw [show (zs a).tdiv (zs e) = 0 by have h9 := td_abs (zs a) (zs e); rw [Int.ediv_eq_zero_of_lt (by omega) hlt] at h9; omega]
      exact hN2
    · intro i hi
      rw [hX1 i hi]
      unfold pad
      split
      · exact a4 i (by omega)
      · omega
    · rw [mg_congr hX1, mg_pad hle, a5, Int.emod_eq_of_lt (by omega) hlt]
  have LARGE : ((zs e).natAbs : Int) ≤ ((zs a).natAbs : Int) → AW g mX6_divides (d + 1) 78 [(6, .int (iZ s)), (5, .int (iZ na)), (4, .int (iZ n2)), (0, .ref mo), (1, .int (iZ a)), (2, .int (iZ e)), (3, .int (iZ c))] [] V sz (VX V sz (EN mo) (DvQ g mo zs a e c n2)) := fun hge => by
    have hle : n2 ≤ na := by
      rcases Nat.lt_or_ge na n2 with h | h
      · have := mg_len_lt (show (1 : Int) < 268435456 by omega) a4 b4 b6 h
        omega
      · exact h
    have hbt := b6.resolve_left (by omega)
    obtain ⟨t, ht⟩ : ∃ t, dg D e (n2 - 1) = t := ⟨_, rfl⟩
    have htb := b4 (n2 - 1) (by omega)
    rw [ht] at htb
    have ht0 : t ≠ 0 := by rw [← ht]; exact hbt
    obtain ⟨f, hf0⟩ : ∃ f, (268435456 : Int) / (t + 1) = f := ⟨_, rfl⟩
    have hf : 0 ≤ f ∧ f < 268435456 := by
      rw [← hf0]
      exact ⟨Int.ediv_nonneg (by omega) (by omega), Int.ediv_lt_of_lt_mul (by omega) (by omega)⟩
    refine aw_ldcZ (z := 268435456) qX6_78 dX6_divides_78 (by decide) ?_
    refine aw_aload_n dX6_divides_80 (by rfl) (Or.inr ⟨_, rfl⟩) ?_
    refine aw_get fX6_8 dX6_divides_81 hmo (by rfl) ?_
    refine aw_bipushZ dX6_divides_84 (by decide) ?_
    refine aw_iload_n dX6_divides_86 (by rfl) ?_
    refine aw_imulZ dX6_divides_87 ?_
    refine aw_iload dX6_divides_88 (by rfl) ?_
    refine aw_iaddZ dX6_divides_90 ?_
    refine aw_iconstZ dX6_divides_91 ?_
    refine aw_isubZ dX6_divides_92 ?_
    refine aw_ialdZ (100 * e + n2 - 1) dX6_divides_93 hA.1 (by omega) (by omega) (by omega) ?_
    rw [show D (100 * e + n2 - 1) = t by rw [← ht]; show _ = D (100 * e + (n2 - 1)); rw [show 100 * e + n2 - 1 = 100 * e + (n2 - 1) by omega]]
    refine aw_iconstZ dX6_divides_94 ?_
    refine aw_iaddZ dX6_divides_95 ?_
    refine aw_idivZ dX6_divides_96 (by omega) (by omega) (by omega) ?_
    rw [Int.tdiv_eq_ediv_of_nonneg (by omega)]
    refine aw_topi (y := f) hf0 ?_
    refine aw_i2lZ dX6_divides_97 (by omega) ?_
    refine aw_lstore dX6_divides_98 (by decide) ?_
    refine aw_lconstZ (z := 0) dX6_divides_100 (by decide) ?_
    refine aw_lstore dX6_divides_101 (by decide) ?_
    refine aw_iconstZ dX6_divides_103 ?_
    refine aw_istore dX6_divides_104 (by decide) ?_
    refine aw_pk [11, 9, 7, 6, 5, 4, 0, 1, 2, 3] (by rfl) ?_
    refine sc_loop (d + 1) (V0 := V) he b2 hf b4 (fun {V1 X w} hmo1 hA1 hV1 hF1 hw1 hE1 => ?_) n2 0 (by omega) hmo hA (fun _ _ => rfl) (fun i hi => absurd hi (by omega)) (by omega) (by simp [mg])
    obtain ⟨hw0, hhalf, hfg⟩ := sc_top hne1 b4 hF1 (by rw [ht]; exact hf0.symm) hbt hw1.1 hE1
    rw [hw0, Int.zero_mul, Int.add_zero] at hE1
    refine aw_lconstZ (z := 0) dX6_divides_161 (by decide) ?_
    refine aw_lstore dX6_divides_162 (by decide) ?_
    refine aw_iconstZ dX6_divides_164 ?_
    refine aw_istore dX6_divides_165 (by decide) ?_
    refine aw_pk [11, 9, 7, 6, 5, 4, 0, 1, 2, 3] (by rfl) ?_
    refine sd_loop (d + 1) (V0 := V) ha a2 hf a4 (fun {V2 Y w2} hmo2 hA2 hV2 hF2 hw2 hE2 => ?_) na 0 (by omega) hmo1 hA1 hV1 (fun i hi => absurd hi (by omega)) (by omega) (by simp [mg])
    have hT : mg 268435456 (upF Y na w2) (na + 1) = f * ((zs a).natAbs : Int) := by
      simp only [mg]
      rw [mg_upF, upF_self, hE2, a5]
    have hUr : ∀ i, i ≤ na → 0 ≤ upF Y na w2 i ∧ upF Y na w2 i < 268435456 := fun i hi => by
      unfold upF; split
      · exact hw2
      · exact hF2 i (by omega)
    refine aw_aload_n dX6_divides_222 (by rfl) (Or.inr ⟨_, rfl⟩) ?_
    refine aw_get fX6_20 dX6_divides_223 hmo2 (by rfl) ?_
    refine aw_iload dX6_divides_226 (by rfl) ?_
    refine aw_lload dX6_divides_228 (by rfl) ?_
    refine aw_lastZ (na) dX6_divides_230 hA2.2.2.2.1 (by omega) (by omega) (by omega) ?_
    refine aw_iload dX6_divides_231 (by rfl) ?_
    refine aw_iload dX6_divides_233 (by rfl) ?_
    refine aw_isubZ dX6_divides_235 ?_
    refine aw_istore dX6_divides_236 (by decide) ?_
    refine aw_pk [11, 7, 6, 5, 4, 0, 1, 2, 3] (by rfl) ?_
    rw [show (na : Int) - (n2 : Int) = ((na - n2 + 1 : Nat) : Int) - 1 by omega]
    refine dg_loop d (V0 := V) (zs := zs) (v := f * ((zs e).natAbs : Int)) (T := f * ((zs a).natAbs : Int)) hc ⟨hne1, b2⟩ ⟨hle, a2⟩ hF1 (by rw [← b5, ← hE1]) hhalf (fun {V3 D3 U3} hmo3 hA3 hV3 h03 hU3 hQ3 hI3 hlt3 => ?_) (na - n2 + 1) (Nat.le_refl _) ((AHu_ne (by omega)).trans hmo2) hA2.o1 (fun a ha => (AHu_ne (fun z => ha (by unfold EN; omega))).trans (hV2 a ha)) (fun q hq _ => h0 q hq) hUr (fun i h1 h2 => absurd h1 (by omega)) (by rw [Int.sub_self, Int.mul_zero, Int.zero_add, show na - n2 + 1 + n2 = na + 1 by omega, hT]) (by rw [show na - n2 + 1 + n2 = na + 1 by omega, hT]; exact dm_first rfl ⟨hne1, hle⟩ hfg.1 (by rw [← a5]; exact (mg_bd (by omega) a4).2) (by rw [← b5]; have := mg_top (show (0 : Int) < 268435456 by omega) (F := dg D e) (n := n2 - 1) (fun k hk => b4 k (by omega)) hbt; rw [show n2 - 1 + 1 = n2 by omega] at this; exact this))
    rw [Nat.zero_add] at hI3 hlt3
    rw [show mg 268435456 (dg D3 c) 0 = 0 from rfl, Int.sub_zero] at hI3
    rw [Int.pow_zero, Int.mul_one] at hlt3
    have hr3 := mg_bd (show (0 : Int) < 268435456 by omega) (F := U3) (n := n2) (fun i hi => hU3 i (by omega))
    obtain ⟨hqe, hre⟩ := dm_end hfg.1 (show (0 : Int) < ((zs e).natAbs : Int) by omega) hI3 ⟨hr3.1, hlt3⟩
    refine aw_lconstZ (z := 0) dX6_divides_411 (by decide) ?_
    refine aw_lstore dX6_divides_412 (by decide) ?_
    refine aw_iload dX6_divides_414 (by rfl) ?_
    refine aw_iconstZ dX6_divides_416 ?_
    refine aw_isubZ dX6_divides_417 ?_
    refine aw_istore dX6_divides_418 (by decide) ?_
    refine aw_pk [11, 9, 7, 6, 5, 4, 0, 1, 2, 3] (by rfl) ?_
    refine bk_loop d (V0 := V) (R := mg 268435456 U3 n2) b2 hfg (fun {V4 U4 w4} hmo4 hA4 hV4 hU4 hw4 hI4 => ?_) n2 (Nat.le_refl _) hmo3 hA3 hV3 (fun i hi => hU3 i (by omega)) (by omega) (by rw [Int.sub_self, Int.mul_zero, Int.zero_mul]; omega)
    rw [show mg 268435456 U4 0 = 0 from rfl, Int.sub_zero, Int.add_zero, Int.pow_zero, Int.mul_one, hre] at hI4
    have hrr := bk_end hfg.1 hI4 hw4
    refine aw_aload_n dX6_divides_466 (by rfl) (Or.inr ⟨_, rfl⟩) ?_
    refine aw_iload_n dX6_divides_467 (by rfl) ?_
    refine aw_iload dX6_divides_468 (by rfl) ?_
    refine aw_iload dX6_divides_470 (by rfl) ?_
    refine aw_isubZ dX6_divides_472 ?_
    refine aw_iconstZ dX6_divides_473 ?_
    refine aw_iaddZ dX6_divides_474 ?_
    refine aw_topi (y := ((na - n2 + 1 : Nat) : Int)) (by omega) ?_
    refine aw_iload dX6_divides_475 (by rfl) ?_
    refine aw_callv vX6_79 dX6_divides_477 hmo4 (m_endsL d (c := c) (n := na - n2 + 1) (s := s) (z := (zs a).tdiv (zs e)) hmo4 hA4 h03 hc (by omega) (fun k hk => hQ3 k (by omega) hk) (by rw [td_abs]; exact hqe) (fun q => by rw [← hs, hsa, hse]; exact td_sign q) hs32) (by rfl) (by rfl) (by omega) (Nat.le_of_ble_eq_true rfl) ?_
    rintro _ V5 _ _ _ ⟨rfl, rfl, rfl, hE5, rfl, D5, LN5, SG5, Y1, Y2, hA5, hN5⟩ -
    refine q0 ?_
    have hA6 := ma_o hA4 hA5 hE5
    refine aw_ret dX6_divides_480 rfl ?_
    exact ⟨rfl, rfl, rfl, fun a ha => (hE5 a (fun q => ha (el_en q))).trans (hV4 a ha), rfl, D5, LN5, SG5, U4, X, hA6, hN5, hU4, hrr⟩
  refine AMet.of rfl rfl (Nat.le_of_ble_eq_true rfl) ?_
  show AW g mX6_divides (d + 1) 0 [(0, .ref mo), (1, .int (iZ a)), (2, .int (iZ e)), (3, .int (iZ c))] [] V sz _
  refine aw_aload_n dX6_divides_0 (by rfl) (Or.inr ⟨_, rfl⟩) ?_
  refine aw_get fX6_14 dX6_divides_1 hmo (by rfl) ?_
  refine aw_iload_n dX6_divides_4 (by rfl) ?_
  refine aw_ialdZ (e) dX6_divides_5 hA.2.1 (by omega) (by omega) (by omega) ?_
  rw [hn]
  refine aw_istore dX6_divides_6 (by decide) ?_
  refine aw_aload_n dX6_divides_8 (by rfl) (Or.inr ⟨_, rfl⟩) ?_
  refine aw_get fX6_14 dX6_divides_9 hmo (by rfl) ?_
  refine aw_iload_n dX6_divides_12 (by rfl) ?_
  refine aw_ialdZ (a) dX6_divides_13 hA.2.1 (by omega) (by omega) (by omega) ?_
  rw [a1]
  refine aw_istore dX6_divides_14 (by decide) ?_
  refine aw_aload_n dX6_divides_16 (by rfl) (Or.inr ⟨_, rfl⟩) ?_
  refine aw_get fX6_17 dX6_divides_17 hmo (by rfl) ?_
  refine aw_iload_n dX6_divides_20 (by rfl) ?_
  refine aw_ialdZ (a) dX6_divides_21 hA.2.2.1 (by omega) (by omega) (by omega) ?_
  refine aw_aload_n dX6_divides_22 (by rfl) (Or.inr ⟨_, rfl⟩) ?_
  refine aw_get fX6_17 dX6_divides_23 hmo (by rfl) ?_
  refine aw_iload_n dX6_divides_26 (by rfl) ?_
  refine aw_ialdZ (e) dX6_divides_27 hA.2.2.1 (by omega) (by omega) (by omega) ?_
  refine aw_imulZ dX6_divides_28 ?_
  refine aw_topi (y := s) hs ?_
  refine aw_istore dX6_divides_29 (by decide) ?_
  refine aw_aload_n dX6_divides_31 (by rfl) (Or.inr ⟨_, rfl⟩) ?_
  refine aw_iload_n dX6_divides_32 (by rfl) ?_
  refine aw_iload_n dX6_divides_33 (by rfl) ?_
  refine aw_callv vX6_71 dX6_divides_34 hmo (m_compared d ⟨rk, kn, ar, ac, hmo⟩ ⟨D, LN, SG, O1, O2, hA, h0⟩ ha he) (by rfl) (by rfl) (by omega) (Nat.le_of_ble_eq_true rfl) ?_
  rintro _ _ _ _ _ ⟨rfl, rfl, rfl, rfl, rfl⟩ -
  refine q0 ?_
  refine aw_if_geZ (tgt := 78) dX6_divides_37 (by decide) (cmpZ_R _ _) (fun hc_37 => ?_) (fun hc_37 => ?_)
  · refine aw_pk [6, 5, 4, 0, 1, 2, 3] (by rfl) ?_
    exact LARGE (cmpZ_ge.mp hc_37)
  · refine aw_iconstZ dX6_divides_40 ?_
    refine aw_istore dX6_divides_41 (by decide) ?_
    refine aw_pk [7, 6, 5, 4, 0, 1, 2, 3] (by rfl) ?_
    exact SMALL (by have : ¬ ((zs e).natAbs : Int) ≤ ((zs a).natAbs : Int) := fun q => hc_37 (cmpZ_ge.mpr q); omega)

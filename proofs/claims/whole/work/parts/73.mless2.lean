/-! ===== the reference: less, whole ===== -/
theorem ls_236 (d : Nat) {g : GX} {V : AH} {mo sz : Nat} {rk kn ar ac : Int} {D LN SG O1 O2 : Nat → Int} {a e c n n2 : Nat} {cr ov az s sv z : Int} {zs : Nat → Int} (hmo : V mo = some (moO mo rk kn ar ac)) (hA : MA g mo V D LN SG O1 O2) (h0 : ∀ q, q < 460 → q ≠ c → NuV D LN SG q (zs q)) (hc : c < 460) (he : e < 460) (hn2 : n2 ≤ 100) (hF : ∀ k, k < n2 → 0 ≤ dg D c k ∧ dg D c k < 268435456) (hz : mg 268435456 (dg D c) n2 = (z.natAbs : Int)) (hsv : sv = (if az = 0 then (if ov < 0 then -s else s) else if s = 0 then - SG e else s)) (hs : z ≠ 0 → sv = z.sign) (hs32 : R32 sv) (hov : R32 ov) (haz : az = 0 ∨ az = 1) (hsr : R32 s) : AW g mX6_less (d + 1) 236 [(8, .int (iZ cr)), (7, .int (iZ ov)), (6, .int (iZ az)), (5, .int (iZ s)), (4, .int (iZ n)), (0, .ref mo), (1, .int (iZ a)), (2, .int (iZ e)), (3, .int (iZ c))] [.int (iZ n2), .int (iZ c), .ref mo] V sz (VX V sz (EN mo) (fun q V' => none = q ∧ MN g mo V' (upF zs c z))) := by
  refine aw_iload dX6_less_236 (by rfl) ?_
  refine aw_if_eqZ (tgt := 261) dX6_less_238 (by decide) (by omega) (fun hc_238 => ?_) (fun hc_238 => ?_)
  · refine aw_iload dX6_less_261 (by rfl) ?_
    refine aw_if_geZ (tgt := 272) dX6_less_263 (by decide) hov (fun hc_263 => ?_) (fun hc_263 => ?_)
    · refine aw_iload dX6_less_272 (by rfl) ?_
      refine aw_topi (y := sv) (by rw [hsv]; first | (rw [if_neg hc_238, if_pos hc_243]; done) | (rw [if_neg hc_238, if_neg hc_243]; done) | (rw [if_pos hc_238, if_pos (by omega)]; done) | (rw [if_pos hc_238, if_neg (by omega)]; done)) ?_
      refine aw_callv vX6_79 dX6_less_274 hmo (m_ends d (z := z) (s := sv) (n := n2) hmo hA h0 hc hn2 hF hz hs hs32) (by rfl) (by rfl) (by omega) (Nat.le_of_ble_eq_true rfl) ?_
      rintro _ V1 _ _ _ ⟨rfl, rfl, rfl, hE, rfl, hM⟩ -
      refine VX.call hE ?_
      refine aw_ret dX6_less_277 rfl ?_
      exact VX.ret ⟨rfl, hM⟩
    · refine aw_iload dX6_less_266 (by rfl) ?_
      refine aw_inegZ dX6_less_268 ?_
      refine aw_goto (tgt := 274) dX6_less_269 (by decide) ?_
      refine aw_topi (y := sv) (by rw [hsv]; first | (rw [if_neg hc_238, if_pos hc_243]; done) | (rw [if_neg hc_238, if_neg hc_243]; done) | (rw [if_pos hc_238, if_pos (by omega)]; done) | (rw [if_pos hc_238, if_neg (by omega)]; done)) ?_
      refine aw_callv vX6_79 dX6_less_274 hmo (m_ends d (z := z) (s := sv) (n := n2) hmo hA h0 hc hn2 hF hz hs hs32) (by rfl) (by rfl) (by omega) (Nat.le_of_ble_eq_true rfl) ?_
      rintro _ V1 _ _ _ ⟨rfl, rfl, rfl, hE, rfl, hM⟩ -
      refine VX.call hE ?_
      refine aw_ret dX6_less_277 rfl ?_
      exact VX.ret ⟨rfl, hM⟩
  · refine aw_iload dX6_less_241 (by rfl) ?_
    refine aw_if_neZ (tgt := 256) dX6_less_243 (by decide) (by omega) (fun hc_243 => ?_) (fun hc_243 => ?_)
    · refine aw_iload dX6_less_256 (by rfl) ?_
      refine aw_goto (tgt := 274) dX6_less_258 (by decide) ?_
      refine aw_topi (y := sv) (by rw [hsv]; first | (rw [if_neg hc_238, if_pos hc_243]; done) | (rw [if_neg hc_238, if_neg hc_243]; done) | (rw [if_pos hc_238, if_pos (by omega)]; done) | (rw [if_pos hc_238, if_neg (by omega)]; done)) ?_
      refine aw_callv vX6_79 dX6_less_274 hmo (m_ends d (z := z) (s := sv) (n := n2) hmo hA h0 hc hn2 hF hz hs hs32) (by rfl) (by rfl) (by omega) (Nat.le_of_ble_eq_true rfl) ?_
      rintro _ V1 _ _ _ ⟨rfl, rfl, rfl, hE, rfl, hM⟩ -
      refine VX.call hE ?_
      refine aw_ret dX6_less_277 rfl ?_
      exact VX.ret ⟨rfl, hM⟩
    · refine aw_aload_n dX6_less_246 (by rfl) (Or.inr ⟨_, rfl⟩) ?_
      refine aw_get fX6_17 dX6_less_247 hmo (by rfl) ?_
      refine aw_iload_n dX6_less_250 (by rfl) ?_
      refine aw_ialdZ (e) dX6_less_251 hA.2.2.1 (by omega) (by omega) (by omega) ?_
      refine aw_inegZ dX6_less_252 ?_
      refine aw_goto (tgt := 274) dX6_less_253 (by decide) ?_
      refine aw_topi (y := sv) (by rw [hsv]; first | (rw [if_neg hc_238, if_pos hc_243]; done) | (rw [if_neg hc_238, if_neg hc_243]; done) | (rw [if_pos hc_238, if_pos (by omega)]; done) | (rw [if_pos hc_238, if_neg (by omega)]; done)) ?_
      refine aw_callv vX6_79 dX6_less_274 hmo (m_ends d (z := z) (s := sv) (n := n2) hmo hA h0 hc hn2 hF hz hs hs32) (by rfl) (by rfl) (by omega) (Nat.le_of_ble_eq_true rfl) ?_
      rintro _ V1 _ _ _ ⟨rfl, rfl, rfl, hE, rfl, hM⟩ -
      refine VX.call hE ?_
      refine aw_ret dX6_less_277 rfl ?_
      exact VX.ret ⟨rfl, hM⟩
theorem ls_201 (d : Nat) {g : GX} {V : AH} {mo sz : Nat} {rk kn ar ac : Int} {D LN SG O1 O2 : Nat → Int} {a e c n : Nat} {cr ov az s sv z : Int} {zs : Nat → Int} (hmo : V mo = some (moO mo rk kn ar ac)) (hA : MA g mo V D LN SG O1 O2) (h0 : ∀ q, q < 460 → q ≠ c → NuV D LN SG q (zs q)) (hc : c < 460) (he : e < 460) (hn : n ≤ 100) (hF : ∀ k, k < n → 0 ≤ dg D c k ∧ dg D c k < 268435456) (hcr : -1 ≤ cr ∧ cr ≤ 1) (hE : mg 268435456 (dg D c) n + cr * 268435456 ^ n = (z.natAbs : Int)) (hzb : SmM z) (hsv : sv = (if az = 0 then (if ov < 0 then -s else s) else if s = 0 then - SG e else s)) (hs : z ≠ 0 → sv = z.sign) (hs32 : R32 sv) (hov : R32 ov) (haz : az = 0 ∨ az = 1) (hsr : R32 s) : AW g mX6_less (d + 1) 201 [(8, .int (iZ cr)), (7, .int (iZ ov)), (6, .int (iZ az)), (5, .int (iZ s)), (4, .int (iZ n)), (0, .ref mo), (1, .int (iZ a)), (2, .int (iZ e)), (3, .int (iZ c))] [] V sz (VX V sz (EN mo) (fun q V' => none = q ∧ MN g mo V' (upF zs c z))) := by
  have hbd := mg_bd (show (0 : Int) < 268435456 by omega) hF
  have hP := pw_pos (show (0 : Int) < 268435456 by omega) n
  have hc01 : cr = 0 ∨ cr = 1 := by
    rcases (show cr = -1 ∨ cr = 0 ∨ cr = 1 by omega) with h | h
    · rw [h] at hE
      generalize (268435456 : Int) ^ n = P at *
      omega
    · exact h
  rcases hc01 with rfl | rfl
  · skip
    refine aw_iload dX6_less_201 (by rfl) ?_
    refine aw_if_leZ (tgt := 220) dX6_less_203 (by decide) (by decide) (fun hc_203 => ?_) (fun hc_203 => ?_)
    · refine aw_aload_n dX6_less_220 (by rfl) (Or.inr ⟨_, rfl⟩) ?_
      refine aw_iload_n dX6_less_221 (by rfl) ?_
      refine aw_iload dX6_less_222 (by rfl) ?_
      refine aw_if_leZ (tgt := 234) dX6_less_224 (by decide) (by decide) (fun hc_224 => ?_) (fun hc_224 => ?_)
      · refine aw_iload dX6_less_234 (by rfl) ?_
        exact ls_236 d hmo hA h0 hc he hn hF (by rw [Int.zero_mul, Int.add_zero] at hE; exact hE) hsv hs hs32 hov haz hsr
      · exact absurd (by decide) hc_224
    · exact absurd (by decide) hc_203
  · have hn9 : n < 100 := by
      rcases Nat.lt_or_ge n 100 with h | h
      · exact h
      · have h1 : (268435456 : Int) ^ 100 ≤ 268435456 ^ n := pw_le (by omega) h
        have h2 : (z.natAbs : Int) < 268435456 ^ 100 := hzb
        generalize (268435456 : Int) ^ 100 = P1 at *
        generalize (268435456 : Int) ^ n = P at *
        omega
    clear hzb
    refine aw_iload dX6_less_201 (by rfl) ?_
    refine aw_if_leZ (tgt := 220) dX6_less_203 (by decide) (by decide) (fun hc_203 => ?_) (fun hc_203 => ?_)
    · exact absurd hc_203 (by decide)
    · refine aw_aload_n dX6_less_206 (by rfl) (Or.inr ⟨_, rfl⟩) ?_
      refine aw_get fX6_8 dX6_less_207 hmo (by rfl) ?_
      refine aw_bipushZ dX6_less_210 (by decide) ?_
      refine aw_iload_n dX6_less_212 (by rfl) ?_
      refine aw_imulZ dX6_less_213 ?_
      refine aw_iload dX6_less_214 (by rfl) ?_
      refine aw_iaddZ dX6_less_216 ?_
      refine aw_iload dX6_less_217 (by rfl) ?_
      refine aw_iastZ (100 * c + n) dX6_less_219 hA.1 (by omega) (by omega) (by omega) ?_
      refine VX.stp (V1 := AHu V (mo + 1) _) (fun a ha => AHu_ne (fun q => ha (by unfold EN; omega))) ?_
      have hmo1 : (AHu V (mo + 1) (aIz g 46000 (upF D (100 * c + n) 1))) mo = _ := (AHu_ne (by omega)).trans hmo
      have hA1 : MA g mo (AHu V (mo + 1) (aIz g 46000 (upF D (100 * c + n) 1))) (upF D (100 * c + n) 1) LN SG O1 O2 := hA.d
      refine aw_aload_n dX6_less_220 (by rfl) (Or.inr ⟨_, rfl⟩) ?_
      refine aw_iload_n dX6_less_221 (by rfl) ?_
      refine aw_iload dX6_less_222 (by rfl) ?_
      refine aw_if_leZ (tgt := 234) dX6_less_224 (by decide) (by decide) (fun hc_224 => ?_) (fun hc_224 => ?_)
      · exact absurd hc_224 (by decide)
      · refine aw_iload dX6_less_227 (by rfl) ?_
        refine aw_iconstZ dX6_less_229 ?_
        refine aw_iaddZ dX6_less_230 ?_
        refine aw_goto (tgt := 236) dX6_less_231 (by decide) ?_
        refine aw_topi (y := ((n + 1 : Nat) : Int)) (by omega) ?_
        exact ls_236 d hmo1 hA1 (fun q hq hne => (h0 q hq hne).kept (fun k hk => upF_ne _ _ (by omega)) rfl rfl) hc he (by omega) (fun k hk => by
          show 0 ≤ upF D (100 * c + n) 1 (100 * c + k) ∧ upF D (100 * c + n) 1 (100 * c + k) < _
          unfold upF; split
          · omega
          · exact hF k (by omega)) (by
          simp only [mg]
          rw [mg_congr (F := dg (upF D (100 * c + n) 1) c) (G := dg D c) (fun k hk => show upF D (100 * c + n) 1 (100 * c + k) = D (100 * c + k) from upF_ne _ _ (by omega)), show dg (upF D (100 * c + n) 1) c n = 1 from upF_self _ _ _]
          exact hE) hsv hs hs32 hov haz hsr
theorem ls_math {A E : Int} (hE : E ≠ 0) : (if (if A.sign = E.sign then (0 : Int) else 1) = 0 then (if cmpZ (A.natAbs : Int) (E.natAbs : Int) < 0 then (E.natAbs : Int) - (A.natAbs : Int) else (A.natAbs : Int) - (E.natAbs : Int)) else (A.natAbs : Int) + (E.natAbs : Int)) = ((A - E).natAbs : Int) ∧ (A - E ≠ 0 → (if (if A.sign = E.sign then (0 : Int) else 1) = 0 then (if cmpZ (A.natAbs : Int) (E.natAbs : Int) < 0 then - A.sign else A.sign) else if A.sign = 0 then - E.sign else A.sign) = (A - E).sign) := by
  have hc : cmpZ (A.natAbs : Int) (E.natAbs : Int) < 0 ↔ (A.natAbs : Int) < (E.natAbs : Int) := cmpZ_lt
  have hd : (A - E < 0 → (A - E).sign = -1) ∧ (0 < A - E → (A - E).sign = 1) := ⟨Int.sign_eq_neg_one_of_neg, Int.sign_eq_one_of_pos⟩
  generalize cmpZ (A.natAbs : Int) (E.natAbs : Int) = ov at *
  generalize (A - E).sign = sd at *
  rcases Int.lt_trichotomy A 0 with h | h | h <;> rcases Int.lt_trichotomy E 0 with k | k | k
  · rw [Int.sign_eq_neg_one_of_neg h, Int.sign_eq_neg_one_of_neg k]; simp only [if_true]; split <;> omega
  · exact absurd k hE
  · rw [Int.sign_eq_neg_one_of_neg h, Int.sign_eq_one_of_pos k]; simp; omega
  · subst h
    simp only [Int.sign_eq_neg_one_of_neg k, Int.sign_zero, if_neg (show ¬ ((0 : Int) = -1) by decide), if_neg (show ¬ ((1 : Int) = 0) by decide), eq_self, if_true]
    refine ⟨?_, fun _ => ?_⟩ <;> omega
  · exact absurd k hE
  · subst h
    simp only [Int.sign_eq_one_of_pos k, Int.sign_zero, if_neg (show ¬ ((0 : Int) = 1) by decide), if_neg (show ¬ ((1 : Int) = 0) by decide), eq_self, if_true]
    refine ⟨?_, fun _ => ?_⟩ <;> omega
  · rw [Int.sign_eq_one_of_pos h, Int.sign_eq_neg_one_of_neg k]; simp; omega
  · exact absurd k hE
  · rw [Int.sign_eq_one_of_pos h, Int.sign_eq_one_of_pos k]; simp only [if_true]; split <;> omega
theorem m_less (g : GX) (d : Nat) {V : AH} {mo sz a e c : Nat} {zs : Nat → Int} (hm : moV mo V) (h : MN g mo V zs) (ha : a < 460) (he : e < 460) (hc : c < 460) (hzb : SmM (zs a - zs e)) : AMet g mX6_less (d + 1) [.ref mo, .int (iZ a), .int (iZ e), .int (iZ c)] V sz (VX V sz (EN mo) (fun q V' => none = q ∧ MN g mo V' (upF zs c (zs a - zs e)))) := by
  obtain ⟨rk, kn, ar, ac, hmo⟩ := hm
  obtain ⟨D, LN, SG, O1, O2, hA, h0⟩ := h
  obtain ⟨na, a1, a2, a3, a4, a5, a6⟩ := h0 a ha
  obtain ⟨ne, b1, b2, b3, b4, b5, b6⟩ := h0 e he
  have LOOP : zs e ≠ 0 → AW g mX6_less (d + 1) 88 [(9, .int (iZ (0 : Nat))), (8, .int (iZ 0)), (7, .int (iZ (cmpZ ((zs a).natAbs : Int) ((zs e).natAbs : Int)))), (6, .int (iZ (if (zs a).sign = (zs e).sign then 0 else 1))), (5, .int (iZ (zs a).sign)), (4, .int (iZ (max na ne : Nat))), (0, .ref mo), (1, .int (iZ a)), (2, .int (iZ e)), (3, .int (iZ c))] [] V sz (VX V sz (EN mo) (fun q V' => none = q ∧ MN g mo V' (upF zs c (zs a - zs e)))) := fun hz1 => by
    have hma := ls_math (A := zs a) hz1
    have hov := cmpZ_R ((zs a).natAbs : Int) ((zs e).natAbs : Int)
    have hfx := fx_mg (if (zs a).sign = (zs e).sign then 0 else 1) (cmpZ ((zs a).natAbs : Int) ((zs e).natAbs : Int)) (pad (dg D a) na) (pad (dg D e) ne) (max na ne)
    rw [mg_pad (by omega), mg_pad (by omega), a5, b5, hma.1] at hfx
    have haz : (if (zs a).sign = (zs e).sign then (0 : Int) else 1) = 0 ∨ (if (zs a).sign = (zs e).sign then (0 : Int) else 1) = 1 := by split <;> omega
    have hsa := sgn_R (zs a)
    have hse := sgn_R (zs e)
    exact ls_loop d (V0 := V) (D0 := D) ha he hc (by omega) ⟨a1, by omega⟩ ⟨b1, by omega⟩ a4 b4 hov haz (fun {V1 D1 cr} k1 k2 k3 k4 k5 k6 k7 k8 => VX.stp k3 (ls_201 d k1 k2 (fun q hq hne => (h0 q hq).kept (fun k hk => k4 _ (by omega)) rfl rfl) hc he (by omega) k6 k7 (k8.trans hfx) hzb rfl (fun hz => by rw [b3]; exact hma.2 hz) (by
      have h1 : ∀ x : Int, (x = (zs a).sign ∨ x = -(zs a).sign ∨ x = - SG e) → R32 x := fun x hx => by
        rw [b3] at hx
        have hsa := sgn_R (zs a)
        have hse := sgn_R (zs e)
        have u1 := sg_cases (zs a)
        have u2 := sg_cases (zs e)
        unfold R32
        omega
      refine h1 _ ?_
      by_cases c1 : (if (zs a).sign = (zs e).sign then (0 : Int) else 1) = 0
      · rw [if_pos c1]
        split
        · exact Or.inr (Or.inl rfl)
        · exact Or.inl rfl
      · rw [if_neg c1]
        split
        · exact Or.inr (Or.inr rfl)
        · exact Or.inl rfl) hov haz hsa)) (max na ne) 0 (by omega) hmo hA (fun _ _ => rfl) (fun _ _ => rfl) (fun _ _ _ => rfl) (fun q hq => absurd hq (by omega)) (by omega) (by simp [mg])
  refine AMet.of rfl rfl (Nat.le_of_ble_eq_true rfl) ?_
  show AW g mX6_less (d + 1) 0 [(0, .ref mo), (1, .int (iZ a)), (2, .int (iZ e)), (3, .int (iZ c))] [] V sz _
  refine aw_aload_n dX6_less_0 (by rfl) (Or.inr ⟨_, rfl⟩) ?_
  refine aw_get fX6_17 dX6_less_1 hmo (by rfl) ?_
  refine aw_iload_n dX6_less_4 (by rfl) ?_
  refine aw_ialdZ (e) dX6_less_5 hA.2.2.1 (by omega) (by omega) (by omega) ?_
  refine aw_if_neZ (tgt := 16) dX6_less_6 (by decide) (by rw [b3]; exact sgn_R _) (fun hc_6 => ?_) (fun hc_6 => ?_)
  · have hz1 : zs e ≠ 0 := fun z => hc_6 (by rw [b3, z]; rfl)
    refine aw_aload_n dX6_less_16 (by rfl) (Or.inr ⟨_, rfl⟩) ?_
    refine aw_get fX6_14 dX6_less_17 hmo (by rfl) ?_
    refine aw_iload_n dX6_less_20 (by rfl) ?_
    refine aw_ialdZ (a) dX6_less_21 hA.2.1 (by omega) (by omega) (by omega) ?_
    refine aw_aload_n dX6_less_22 (by rfl) (Or.inr ⟨_, rfl⟩) ?_
    refine aw_get fX6_14 dX6_less_23 hmo (by rfl) ?_
    refine aw_iload_n dX6_less_26 (by rfl) ?_
    refine aw_ialdZ (e) dX6_less_27 hA.2.1 (by omega) (by omega) (by omega) ?_
    refine aw_icmp_leZ (tgt := 40) dX6_less_28 (by decide) (by omega) (by omega) (fun hc_28 => ?_) (fun hc_28 => ?_)
    · refine aw_aload_n dX6_less_40 (by rfl) (Or.inr ⟨_, rfl⟩) ?_
      refine aw_get fX6_14 dX6_less_41 hmo (by rfl) ?_
      refine aw_iload_n dX6_less_44 (by rfl) ?_
      refine aw_ialdZ (e) dX6_less_45 hA.2.1 (by omega) (by omega) (by omega) ?_
      refine aw_topi (y := ((max na ne : Nat) : Int)) (by omega) ?_
      refine aw_istore dX6_less_46 (by decide) ?_
      refine aw_aload_n dX6_less_48 (by rfl) (Or.inr ⟨_, rfl⟩) ?_
      refine aw_get fX6_17 dX6_less_49 hmo (by rfl) ?_
      refine aw_iload_n dX6_less_52 (by rfl) ?_
      refine aw_ialdZ (a) dX6_less_53 hA.2.2.1 (by omega) (by omega) (by omega) ?_
      refine aw_istore dX6_less_54 (by decide) ?_
      refine aw_iload dX6_less_56 (by rfl) ?_
      refine aw_aload_n dX6_less_58 (by rfl) (Or.inr ⟨_, rfl⟩) ?_
      refine aw_get fX6_17 dX6_less_59 hmo (by rfl) ?_
      refine aw_iload_n dX6_less_62 (by rfl) ?_
      refine aw_ialdZ (e) dX6_less_63 hA.2.2.1 (by omega) (by omega) (by omega) ?_
      refine aw_icmp_eqZ (tgt := 71) dX6_less_64 (by decide) (by rw [a3]; exact sgn_R _) (by rw [b3]; exact sgn_R _) (fun hc_64 => ?_) (fun hc_64 => ?_)
      · refine aw_iconstZ dX6_less_71 ?_
        refine aw_topi (y := if (zs a).sign = (zs e).sign then 0 else 1) (by rw [← a3, ← b3]; first | (rw [if_pos hc_64]; done) | (rw [if_neg hc_64]; done)) ?_
        refine aw_istore dX6_less_72 (by decide) ?_
        refine aw_aload_n dX6_less_74 (by rfl) (Or.inr ⟨_, rfl⟩) ?_
        refine aw_iload_n dX6_less_75 (by rfl) ?_
        refine aw_iload_n dX6_less_76 (by rfl) ?_
        refine aw_callv vX6_71 dX6_less_77 hmo (m_compared d ⟨rk, kn, ar, ac, hmo⟩ ⟨D, LN, SG, O1, O2, hA, h0⟩ ha he) (by rfl) (by rfl) (by omega) (Nat.le_of_ble_eq_true rfl) ?_
        rintro _ _ _ _ _ ⟨rfl, rfl, rfl, rfl, rfl⟩ -
        refine q0 ?_
        refine aw_istore dX6_less_80 (by decide) ?_
        refine aw_iconstZ dX6_less_82 ?_
        refine aw_istore dX6_less_83 (by decide) ?_
        refine aw_iconstZ dX6_less_85 ?_
        refine aw_istore dX6_less_86 (by decide) ?_
        refine aw_pk [9, 8, 7, 6, 5, 4, 0, 1, 2, 3] (by rfl) ?_
        rw [a3]
        exact LOOP hz1
      · refine aw_iconstZ dX6_less_67 ?_
        refine aw_goto (tgt := 72) dX6_less_68 (by decide) ?_
        refine aw_topi (y := if (zs a).sign = (zs e).sign then 0 else 1) (by rw [← a3, ← b3]; first | (rw [if_pos hc_64]; done) | (rw [if_neg hc_64]; done)) ?_
        refine aw_istore dX6_less_72 (by decide) ?_
        refine aw_aload_n dX6_less_74 (by rfl) (Or.inr ⟨_, rfl⟩) ?_
        refine aw_iload_n dX6_less_75 (by rfl) ?_
        refine aw_iload_n dX6_less_76 (by rfl) ?_
        refine aw_callv vX6_71 dX6_less_77 hmo (m_compared d ⟨rk, kn, ar, ac, hmo⟩ ⟨D, LN, SG, O1, O2, hA, h0⟩ ha he) (by rfl) (by rfl) (by omega) (Nat.le_of_ble_eq_true rfl) ?_
        rintro _ _ _ _ _ ⟨rfl, rfl, rfl, rfl, rfl⟩ -
        refine q0 ?_
        refine aw_istore dX6_less_80 (by decide) ?_
        refine aw_iconstZ dX6_less_82 ?_
        refine aw_istore dX6_less_83 (by decide) ?_
        refine aw_iconstZ dX6_less_85 ?_
        refine aw_istore dX6_less_86 (by decide) ?_
        refine aw_pk [9, 8, 7, 6, 5, 4, 0, 1, 2, 3] (by rfl) ?_
        rw [a3]
        exact LOOP hz1
    · refine aw_aload_n dX6_less_31 (by rfl) (Or.inr ⟨_, rfl⟩) ?_
      refine aw_get fX6_14 dX6_less_32 hmo (by rfl) ?_
      refine aw_iload_n dX6_less_35 (by rfl) ?_
      refine aw_ialdZ (a) dX6_less_36 hA.2.1 (by omega) (by omega) (by omega) ?_
      refine aw_goto (tgt := 46) dX6_less_37 (by decide) ?_
      refine aw_topi (y := ((max na ne : Nat) : Int)) (by omega) ?_
      refine aw_istore dX6_less_46 (by decide) ?_
      refine aw_aload_n dX6_less_48 (by rfl) (Or.inr ⟨_, rfl⟩) ?_
      refine aw_get fX6_17 dX6_less_49 hmo (by rfl) ?_
      refine aw_iload_n dX6_less_52 (by rfl) ?_
      refine aw_ialdZ (a) dX6_less_53 hA.2.2.1 (by omega) (by omega) (by omega) ?_
      refine aw_istore dX6_less_54 (by decide) ?_
      refine aw_iload dX6_less_56 (by rfl) ?_
      refine aw_aload_n dX6_less_58 (by rfl) (Or.inr ⟨_, rfl⟩) ?_
      refine aw_get fX6_17 dX6_less_59 hmo (by rfl) ?_
      refine aw_iload_n dX6_less_62 (by rfl) ?_
      refine aw_ialdZ (e) dX6_less_63 hA.2.2.1 (by omega) (by omega) (by omega) ?_
      refine aw_icmp_eqZ (tgt := 71) dX6_less_64 (by decide) (by rw [a3]; exact sgn_R _) (by rw [b3]; exact sgn_R _) (fun hc_64 => ?_) (fun hc_64 => ?_)
      · refine aw_iconstZ dX6_less_71 ?_
        refine aw_topi (y := if (zs a).sign = (zs e).sign then 0 else 1) (by rw [← a3, ← b3]; first | (rw [if_pos hc_64]; done) | (rw [if_neg hc_64]; done)) ?_
        refine aw_istore dX6_less_72 (by decide) ?_
        refine aw_aload_n dX6_less_74 (by rfl) (Or.inr ⟨_, rfl⟩) ?_
        refine aw_iload_n dX6_less_75 (by rfl) ?_
        refine aw_iload_n dX6_less_76 (by rfl) ?_
        refine aw_callv vX6_71 dX6_less_77 hmo (m_compared d ⟨rk, kn, ar, ac, hmo⟩ ⟨D, LN, SG, O1, O2, hA, h0⟩ ha he) (by rfl) (by rfl) (by omega) (Nat.le_of_ble_eq_true rfl) ?_
        rintro _ _ _ _ _ ⟨rfl, rfl, rfl, rfl, rfl⟩ -
        refine q0 ?_
        refine aw_istore dX6_less_80 (by decide) ?_
        refine aw_iconstZ dX6_less_82 ?_
        refine aw_istore dX6_less_83 (by decide) ?_
        refine aw_iconstZ dX6_less_85 ?_
        refine aw_istore dX6_less_86 (by decide) ?_
        refine aw_pk [9, 8, 7, 6, 5, 4, 0, 1, 2, 3] (by rfl) ?_
        rw [a3]
        exact LOOP hz1
      · refine aw_iconstZ dX6_less_67 ?_
        refine aw_goto (tgt := 72) dX6_less_68 (by decide) ?_
        refine aw_topi (y := if (zs a).sign = (zs e).sign then 0 else 1) (by rw [← a3, ← b3]; first | (rw [if_pos hc_64]; done) | (rw [if_neg hc_64]; done)) ?_
        refine aw_istore dX6_less_72 (by decide) ?_
        refine aw_aload_n dX6_less_74 (by rfl) (Or.inr ⟨_, rfl⟩) ?_
        refine aw_iload_n dX6_less_75 (by rfl) ?_
        refine aw_iload_n dX6_less_76 (by rfl) ?_
        refine aw_callv vX6_71 dX6_less_77 hmo (m_compared d ⟨rk, kn, ar, ac, hmo⟩ ⟨D, LN, SG, O1, O2, hA, h0⟩ ha he) (by rfl) (by rfl) (by omega) (Nat.le_of_ble_eq_true rfl) ?_
        rintro _ _ _ _ _ ⟨rfl, rfl, rfl, rfl, rfl⟩ -
        refine q0 ?_
        refine aw_istore dX6_less_80 (by decide) ?_
        refine aw_iconstZ dX6_less_82 ?_
        refine aw_istore dX6_less_83 (by decide) ?_
        refine aw_iconstZ dX6_less_85 ?_
        refine aw_istore dX6_less_86 (by decide) ?_
        refine aw_pk [9, 8, 7, 6, 5, 4, 0, 1, 2, 3] (by rfl) ?_
        rw [a3]
        exact LOOP hz1
  · have hz0 : zs e = 0 := sgn0.mp (by rw [← b3]; exact hc_6)
    refine aw_aload_n dX6_less_9 (by rfl) (Or.inr ⟨_, rfl⟩) ?_
    refine aw_iload_n dX6_less_10 (by rfl) ?_
    refine aw_iload_n dX6_less_11 (by rfl) ?_
    refine aw_callv vX6_67 dX6_less_12 hmo (m_copies g d ⟨rk, kn, ar, ac, hmo⟩ ⟨D, LN, SG, O1, O2, hA, h0⟩ ha hc) (by rfl) (by rfl) (by omega) (Nat.le_of_ble_eq_true rfl) ?_
    rintro _ V1 _ _ _ ⟨rfl, rfl, rfl, hE, rfl, hM⟩ -
    refine VX.call hE ?_
    refine aw_ret dX6_less_15 rfl ?_
    refine VX.ret ⟨rfl, ?_⟩
    rw [hz0, Int.sub_zero]
    exact hM

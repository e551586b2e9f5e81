/-! ===== the reference: order, whole ===== -/
theorem ask_spn {S : TSt} (o1 : TOK S) {x y k r κ : Nat} {z1 z0 : Nat → Int} {l lk : Nat → Nat} (hx : x < 12) (hy : y < 12) (hk : k < S.r y) (hcc : S.c x = S.c y) (hst1 : Stair (CPx (S.c x) r z1) (r + κ) (S.c x + S.r x) (lpx (S.c x) r l lk)) (hsp1 : SpEq (TU (S.N x) (S.c x)) (S.r x) (CPx (S.c x) r z1) (r + κ) (S.c x + S.r x)) (hlc1 : ∀ i, i < r → l i < S.c x) (hsp2 : SpEq (GTx (TM (S.N x))) (S.r x) (CMx r z1) (r + κ) 15) (hn1 : r + κ ≤ S.r x) (hz0 : ∀ q, q < 150 → z0 q = z1 q) (hzr : ∀ j, j < 5 → z0 (450 + j) = S.N y (5 * k + j)) (n : Int) : (Span (B5 z0) r 5 (fun j => n * z0 (450 + j)) ↔ Span (TM (S.N x)) (S.r x) (S.c x) (fun j => n * S.N y (5 * k + j))) := by
  obtain ⟨s1, s2⟩ := stair_of hst1 hsp1 (cp_split hlc1)
  have q1 := (o1 x hx).1
  have q2 := (o1 y hy).1
  have q3 := (o1 x hx).2.1
  have hB0 : ∀ i j, i < r → S.c x ≤ j → j < 5 → z1 (15 * i + j) = 0 := fun i j hi h1 h2 => by
    obtain ⟨cf, hcf⟩ := (hsp2 (CMx r z1 i)).mpr (Span.row (by omega))
    have h9 := hcf j (by omega)
    rw [cm_s hi] at h9
    rw [h9]
    refine Sg_zero (fun k hk => ?_)
    unfold GTx
    rw [if_pos h2]
    show cf k * S.N x (5 * k + j) = 0
    rw [(o1 x hx).2.2.2.2.2.1 k j (by omega) h2 (Or.inr (Or.inl h1)), Int.mul_zero]
  have hsb := b5_sp (z' := z0) (R := fun j => n * z0 (450 + j)) q3 (by omega) s2 hz0 hB0 (fun j h1 h2 => by
    show n * z0 (450 + j) = 0
    rw [hzr j h2, (o1 y hy).2.2.2.2.2.1 k j (by omega) h2 (Or.inr (Or.inl (by omega))), Int.mul_zero])
  refine hsb.trans ⟨fun h => h.congr (fun j hj => by show n * z0 (450 + j) = _; rw [hzr j (by omega)]), fun h => h.congr (fun j hj => by show _ = n * z0 (450 + j); rw [hzr j (by omega)])⟩
theorem orc (d : Nat) {g : GX} {V : AH} {mo sz x y e : Nat} {rk kn ar ac : Int} {z : Nat → Int} {Q : AQ} (hmo : V mo = some (moO mo rk kn ar ac)) (hM : MN g mo V z) (hYes : (∀ j, j < 5 → z (450 + j) = 0) → AW g mX6_order d 246 [(4, .int (iZ (5 : Nat))), (0, .ref mo), (1, .int (iZ x)), (2, .int (iZ y)), (3, .int (iZ e))] [] V sz Q) (hNo : (∃ j, j < 5 ∧ z (450 + j) ≠ 0) → Q (some (.int (iZ 0))) V sz 0 0) : ∀ (f j : Nat), j + f = 5 → (∀ i, i < j → z (450 + i) = 0) → AW g mX6_order d 218 [(4, .int (iZ j)), (0, .ref mo), (1, .int (iZ x)), (2, .int (iZ y)), (3, .int (iZ e))] [] V sz Q
  | 0, j, hf, hz => by
    obtain rfl : j = 5 := by omega
    refine aw_iload dX6_order_218 (by rfl) ?_
    refine aw_iconstZ dX6_order_220 ?_
    refine aw_icmp_geZ (tgt := 246) dX6_order_221 (by decide) (by omega) (by omega) (fun hc_221 => ?_) (fun hc_221 => ?_)
    · exact hYes (fun j hj => hz j (by omega))
    · exact absurd hc_221 (by omega)
  | f + 1, j, hf, hz => by
    have IH := fun j hj => @orc d g V mo sz x y e rk kn ar ac z Q hmo hM hYes hNo f j hj
    obtain ⟨D, LN, SG, O1, O2, hA, h0⟩ := id hM
    have hsg : SG (450 + j) = (z (450 + j)).sign := by obtain ⟨_, _, _, h3, _⟩ := h0 (450 + j) (by omega); exact h3
    refine aw_iload dX6_order_218 (by rfl) ?_
    refine aw_iconstZ dX6_order_220 ?_
    refine aw_icmp_geZ (tgt := 246) dX6_order_221 (by decide) (by omega) (by omega) (fun hc_221 => ?_) (fun hc_221 => ?_)
    · exact absurd hc_221 (by omega)
    · refine aw_aload_n dX6_order_224 (by rfl) (Or.inr ⟨_, rfl⟩) ?_
      refine aw_get fX6_17 dX6_order_225 hmo (by rfl) ?_
      refine aw_sipushZ dX6_order_228 (by decide) ?_
      refine aw_iload dX6_order_231 (by rfl) ?_
      refine aw_iaddZ dX6_order_233 ?_
      refine aw_ialdZ (450 + j) dX6_order_234 hA.2.2.1 (by omega) (by omega) (by omega) ?_
      refine aw_if_eqZ (tgt := 240) dX6_order_235 (by decide) (by rw [hsg]; exact sgn_R _) (fun hc_235 => ?_) (fun hc_235 => ?_)
      · have h0 : z (450 + j) = 0 := by rw [hsg] at hc_235; exact Int.sign_eq_zero_iff_zero.mp hc_235
        refine aw_iincZ dX6_order_240 (by rfl) (by decide) ?_
        refine aw_goto (tgt := 218) dX6_order_243 (by decide) ?_
        rw [show ((j : Int) + 1) = ((j + 1 : Nat) : Int) by omega]
        exact IH (j + 1) (by omega) (fun i hi => (Nat.lt_or_eq_of_le (Nat.le_of_lt_succ hi)).elim (fun q => hz i q) (fun q => q ▸ h0))
      · have h0 : z (450 + j) ≠ 0 := fun q => hc_235 (by rw [hsg, q]; rfl)
        refine aw_iconstZ dX6_order_238 ?_
        refine aw_iret dX6_order_239 rfl (by rfl) ?_
        exact hNo ⟨j, by omega, h0⟩
theorem m_order (g : GX) (d : Nat) {V : AH} {mo sz : Nat} {zs : Nat → Int} {S : TSt} {A : ASt} {t u i : Int} (hR : RX g mo V zs S A) (ht : R32 t) (hu : R32 u) (hi : R32 i) : AMet g mX6_order (d + 9) [.ref mo, .int (iZ t), .int (iZ u), .int (iZ i)] V sz (RE g mo V sz (AskR S A t u i (OrdR S A))) := by
  obtain ⟨⟨rk, kn, hmo⟩, -, -, -, -, -, hT, -, -, o1, -⟩ := id hR
  have hrb : ∀ n, n < 12 → S.r n ≤ 5 := fun n hn => (o1 n hn).1
  have hcb : ∀ n, n < 12 → S.c n ≤ 5 := fun n hn => (o1 n hn).2.1
  refine AMet.of rfl rfl (Nat.le_of_ble_eq_true rfl) ?_
  show AW g mX6_order (d + 9) 0 [(0, .ref mo), (1, .int (iZ t)), (2, .int (iZ u)), (3, .int (iZ i))] [] V sz _
  refine aw_aload_n dX6_order_0 (by rfl) (Or.inr ⟨_, rfl⟩) ?_
  refine aw_iload_n dX6_order_1 (by rfl) ?_
  refine aw_iload_n dX6_order_2 (by rfl) ?_
  refine aw_iload_n dX6_order_3 (by rfl) ?_
  refine aw_callv vX6_215 dX6_order_4 hmo (m_isAsked g (d + 6) (t := t) (u := u) (i := i) hmo hT ht hu hi hrb hcb) (by rfl) (by rfl) (by omega) (Nat.le_of_ble_eq_true rfl) ?_
  rintro _ _ _ _ _ ⟨rfl, rfl, rfl, rfl, rfl⟩ -
  refine q0 ?_
  show AW g mX6_order (d + 9) _ _ (.int (iZ (asZ S t u i)) :: _) _ _ _
  refine aw_if_neZ (tgt := 12) dX6_order_7 (by decide) (asZ_R _ _ _ _) (fun hc_7 => ?_) (fun hc_7 => ?_)
  · obtain ⟨x, y, k, hAsk⟩ := asZ_yes hc_7
    obtain ⟨hx, hy, rfl, rfl, rfl, hrx, hry, hcc, hk⟩ := id hAsk
    have q1 := (o1 x hx).1
    have q2 := (o1 y hy).1
    have q3 := (o1 x hx).2.1
    refine aw_aload_n dX6_order_12 (by rfl) (Or.inr ⟨_, rfl⟩) ?_
    refine aw_iload_n dX6_order_13 (by rfl) ?_
    refine aw_callv vX6_165 dX6_order_14 hmo (m_stairOf g (d + 0) (t := x) hR hx) (by rfl) (by rfl) (by omega) (Nat.le_of_ble_eq_true rfl) ?_
    rintro _ V1 _ _ _ ⟨rfl, rfl, rfl, hE1, rfl, r1, κ1, l1, lk1, z1, ⟨RW1, RK1, hmo1, hra1, hrk1, hl1, hlk1, hM1, hl51⟩, hst1, hsp1, hlc1, hln1, hst2, hsp2, hn1, hF1⟩ -
    refine q0 ?_
    obtain ⟨s1, s2⟩ := stair_of hst1 hsp1 (cp_split hlc1)
    have hNb : ∀ i j, i < S.r x → j < 5 → ab (TM (S.N x) i j) ≤ 1000 := fun a b ha hb => by
      have := (o1 x hx).2.2.2.1 (5 * a + b) (by omega)
      show ab (S.N x (5 * a + b)) ≤ 1000
      unfold ab; omega
    refine aw_aload_n dX6_order_17 (by rfl) (Or.inr ⟨_, rfl⟩) ?_
    refine aw_iload_n dX6_order_18 (by rfl) ?_
    refine aw_iload_n dX6_order_19 (by rfl) ?_
    refine aw_callv vX6_218 dX6_order_20 hmo1 (m_takesTableRow g (d + 7) (u := y) (i := k) hmo1 hM1 (hT.kept (fun a h1 h2 => hE1 a (by unfold EC; omega))) hy (by omega) (o1 y hy).2.2.2.1) (by rfl) (by rfl) (by omega) (Nat.le_of_ble_eq_true rfl) ?_
    rintro _ V2 _ _ _ ⟨rfl, rfl, rfl, hE2, rfl, hM2⟩ -
    refine q0 ?_
    have hmo2 := (hE2 mo (by unfold EN; omega)).trans hmo1
    refine aw_aload_n dX6_order_23 (by rfl) (Or.inr ⟨_, rfl⟩) ?_
    refine aw_sipushZ dX6_order_24 (by decide) ?_
    refine aw_lconstZ (z := 1) dX6_order_27 (by decide) ?_
    show AW _ _ _ _ _ (_ :: .int (iZ ((440 : Nat) : Int)) :: _) _ _ _
    refine aw_callv vX6_83 dX6_order_28 hmo2 (m_becomes g (d + 8) (c := 440) (v := 1) ⟨_, _, _, _, hmo2⟩ hM2 (by omega) (by omega)) (by rfl) (by rfl) (by omega) (Nat.le_of_ble_eq_true rfl) ?_
    rintro _ V3 _ _ _ ⟨rfl, rfl, rfl, hE3, rfl, hM3⟩ -
    refine q0 ?_
    have hmo3 := (hE3 mo (by unfold EN; omega)).trans hmo2
    have hz0 : ∀ q, q < 150 → upF (rowZ z1 (S.N y) k 5) 440 1 q = z1 q := fun q hq => by rw [upF_ne _ _ (by omega), rowZ.ne (by omega)]
    have hzr : ∀ j, j < 5 → upF (rowZ z1 (S.N y) k 5) 440 1 (450 + j) = S.N y (5 * k + j) := fun j hj => by rw [upF_ne _ _ (by omega), rowZ.at hj]
    have hz4 : upF (rowZ z1 (S.N y) k 5) 440 1 440 = 1 := upF_self _ _ _
    have hzA : ∀ q, 265 ≤ q → q < 365 → upF (rowZ z1 (S.N y) k 5) 440 1 q = z1 q := fun q h1 h2 => by rw [upF_ne _ _ (by omega), rowZ.ne (by omega)]
    have hask := fun n => ask_spn o1 hx hy hk hcc hst1 hsp1 hlc1 hsp2 hn1 hz0 hzr n
    generalize upF (rowZ z1 (S.N y) k 5) 440 1 = z0 at *
    have hp1 := rcp_of (z' := z0) hst2 hl51 hsp2 hNb (by omega) hz0 (fun j hj => by rw [hzr j hj]; have := (o1 y hy).2.2.2.1 (5 * k + j) (by omega); unfold ab; omega)
    obtain ⟨pE, pP, pB, pR, -, -⟩ := id hp1
    have hT10 := tm10
    refine aw_iconstZ dX6_order_31 ?_
    refine aw_istore dX6_order_32 (by decide) ?_
    refine aw_pk [4, 0, 1, 2, 3] (by rfl) ?_
    refine orn (d + 6) (V0 := V3) (z0 := z0) (RW := RW1) (l := l1) (K := 10 * TM10) (r := r1) (κ := κ1) pE (by omega) ((hE3 _ (by unfold EN; omega)).trans ((hE2 _ (by unfold EN; omega)).trans hra1)) hl1 pP (by omega) pB or_sm (fun {V4 z4} hmo4 hM4 hV4 hI4 => ?_) r1 0 (by omega) hmo3 hM3 (fun _ _ => rfl) ⟨⟨by rw [hz4]; omega, ⟨fun _ => 0, fun j hj => by rw [hz4]; show z0 (450 + j) = 1 * z0 (450 + j) - 0; omega⟩, fun i hi => absurd hi (by omega), fun n _ => by rw [hz4]; exact Int.one_dvd n⟩, fun _ _ => rfl, fun j hj => by show _ ≤ 1000 * (10 * TM10 * (1 + 10 * TM10)) ^ 0; rw [Int.pow_zero]; have := pR j hj; omega, by rw [hz4]; show _ ≤ 1000 * (10 * TM10 * (1 + 10 * TM10)) ^ 0; rw [Int.pow_zero]; decide⟩
    obtain ⟨hO4, hF4, -, -⟩ := hI4
    have hra4 := (hV4 (mo + 6) (by unfold EN; omega)).trans ((hE3 _ (by unfold EN; omega)).trans ((hE2 _ (by unfold EN; omega)).trans hra1))
    have hrk4 := (hV4 (mo + 7) (by unfold EN; omega)).trans ((hE3 _ (by unfold EN; omega)).trans ((hE2 _ (by unfold EN; omega)).trans hrk1))
    have hC4 : CSt g mo V4 r1 κ1 (arZ A) (acZ A) l1 lk1 z4 := ⟨RW1, RK1, hmo4, hra4, hrk4, hl1, hlk1, hM4, hl51⟩
    have hVA : ∀ a, ¬ EC mo a → V4 a = V a := fun a ha => (hV4 a (fun z => ha (by unfold EN at z; unfold EC; omega))).trans ((hE3 a (fun z => ha (by unfold EN at z; unfold EC; omega))).trans ((hE2 a (fun z => ha (by unfold EN at z; unfold EC; omega))).trans (hE1 a ha)))
    refine aw_iconstZ dX6_order_215 ?_
    refine aw_istore dX6_order_216 (by decide) ?_
    refine aw_pk [4, 0, 1, 2, 3] (by rfl) ?_
    refine orc (d + 9) hmo4 hM4 (fun hz4a => ?_) (fun ⟨j0, hj0, hne⟩ => ?_) 5 0 (by omega) (fun i hi => absurd hi (by omega))
    · refine aw_aload_n dX6_order_246 (by rfl) (Or.inr ⟨_, rfl⟩) ?_
      refine aw_sipushZ dX6_order_247 (by decide) ?_
      refine aw_sipushZ dX6_order_250 (by decide) ?_
      show AW _ _ _ _ _ (.int (iZ ((265 : Nat) : Int)) :: .int (iZ ((440 : Nat) : Int)) :: _) _ _ _
      refine aw_callv vX6_67 dX6_order_253 hmo4 (m_copies g (d + 8) (a := 440) (c := 265) ⟨_, _, _, _, hmo4⟩ hM4 (by omega) (by omega)) (by rfl) (by rfl) (by omega) (Nat.le_of_ble_eq_true rfl) ?_
      rintro _ V5 _ _ _ ⟨rfl, rfl, rfl, hE5, rfl, hM5⟩ -
      refine q0 ?_
      have hmo5 := (hE5 mo (by unfold EN; omega)).trans hmo4
      refine aw_aload_n dX6_order_256 (by rfl) (Or.inr ⟨_, rfl⟩) ?_
      refine aw_iconstZ dX6_order_257 ?_
      refine aw_iconstZ dX6_order_258 ?_
      show AW _ _ _ _ _ (.int (iZ ((1 : Nat) : Int)) :: .int (iZ ((1 : Nat) : Int)) :: _) _ _ _
      refine aw_callv vX6_189 dX6_order_259 hmo5 (m_tells g (d + 8) (h := 1) (w := 1) hmo5 (by omega)) (by rfl) (by rfl) (by omega) (Nat.le_of_ble_eq_true rfl) ?_
      rintro _ V6 _ _ _ ⟨rfl, rfl, rfl, hE6, rfl, hmo6⟩ -
      refine q0 ?_
      refine aw_iconstZ dX6_order_262 ?_
      refine aw_iret dX6_order_263 rfl (by rfl) ?_
      exact ⟨rfl, rfl, rfl, fun a ha => (hE6 a (fun z => ha (by unfold EM; omega))).trans ((hE5 a (fun z => ha (by unfold EN at z; unfold EM; omega))).trans (hVA a (fun z => ha (by unfold EC at z; unfold EM; omega)))), _, S, _, hR.tell (h := 1) (w := 1) (B := fun _ _ => z4 440) hmo6 ((hE6 _ (by omega)).trans ((hE5 _ (by unfold EN; omega)).trans hra4)) ((hE6 _ (by omega)).trans ((hE5 _ (by unfold EN; omega)).trans hrk4)) (fun a h1 h2 => (hE6 a (by omega)).trans ((hE5 a (by unfold EN; omega)).trans (hVA a (by unfold EC; omega)))) (hM5.kept (fun a ha => hE6 a (by unfold EN at ha; omega))) (fun i j hi hj => by rw [show 265 + 10 * i + j = 265 by omega, upF_self]) (by omega) (by omega), rfl, Or.inl ⟨x, y, k, hAsk, Or.inl ⟨rfl, z4 440, hO4.1, (hask _).mp (OrP.yes hO4 hz4a), fun n hn => hO4.2.2.2 n ((hask n).mpr hn), rfl, rfl, rfl, fun _ _ _ _ => rfl⟩⟩⟩
    · refine ⟨rfl, rfl, rfl, fun a ha => hVA a (fun z => ha (by unfold EC at z; unfold EM; omega)), z4, S, A, hR.calc hC4 hVA (fun q h1 h2 => by rw [hF4 q (by unfold InO; omega), hzA q h1 h2, hF1 q (by unfold InC; omega)]), rfl, Or.inl ⟨x, y, k, hAsk, Or.inr ⟨rfl, fun n hn hsp => ?_, rfl⟩⟩⟩
      exact OrP.no pE hO4 hj0 hne hn ((hask n).mpr hsp)
  · have hno := asZ_no hc_7
    refine aw_iconstZ dX6_order_10 ?_
    refine aw_iret dX6_order_11 rfl (by rfl) ?_
    exact ⟨rfl, rfl, rfl, fun _ _ => rfl, zs, S, A, hR, rfl, Or.inr ⟨hno, rfl, rfl⟩⟩

/-! ===== the reference: quotient, whole ===== -/
def InE2 : Nat → Prop := fun q => InF q ∨ q = 427 ∨ q = 428 ∨ (265 ≤ q ∧ q < 275)
/-- the sizes of the first k have been told -/
def QkI (zs z G : Nat → Int) (k nq : Nat) : Prop := z 427 = G k ∧ nq = szc 0 (fun a => G (a + 1) / G a) k ∧ (∀ a, a < k → G (a + 1) / G a ≠ 1 → z (265 + szc 0 (fun a => G (a + 1) / G a) a) = G (a + 1) / G a) ∧ Frm zs z InE2
set_option maxRecDepth 20000 in
theorem qk_loop (d : Nat) {g : GX} {V0 : AH} {mo sz x y r al : Nat} {rk kn ar ac : Int} {zs G : Nat → Int} {C : Mat} {Q : AQ} (hr5 : r ≤ 5) (hal : al ≤ 5) (hCb : ∀ a e, a < r → e < al → ab (zs (365 + 5 * a + e)) ≤ QX) (hC : ∀ a e, a < r → e < al → C a e = zs (365 + 5 * a + e)) (hG : ∀ k, k ≤ r → GcP k C r al (G k) ∧ G k ≠ 0) (hKK : ∀ {V : AH} {z : Nat → Int} {nq : Nat}, V mo = some (moO mo rk kn ar ac) → MN g mo V z → (∀ a, ¬ (EN mo a ∨ ERC mo a) → V a = V0 a) → (∃ F : Nat → Int, V (mo + 13) = some (aIz g 5 F)) → (∃ F : Nat → Int, V (mo + 14) = some (aIz g 5 F)) → QkI zs z G r nq → AW g mX6_quotient (d + 3) 363 [(5, .int (iZ (nq : Int))), (4, .int (iZ (al : Int))), (3, .int (iZ (r : Int))), (0, .ref mo), (1, .int (iZ (x : Int))), (2, .int (iZ (y : Int)))] [] V sz Q) : ∀ (f k nq : Nat), k + f = r + 1 → 1 ≤ k → ∀ {V : AH} {z : Nat → Int}, V mo = some (moO mo rk kn ar ac) → MN g mo V z → (∀ a, ¬ (EN mo a ∨ ERC mo a) → V a = V0 a) → (∃ F : Nat → Int, V (mo + 13) = some (aIz g 5 F)) → (∃ F : Nat → Int, V (mo + 14) = some (aIz g 5 F)) → QkI zs z G (k - 1) nq → AW g mX6_quotient (d + 3) 186 [(6, .int (iZ (k : Int))), (5, .int (iZ (nq : Int))), (4, .int (iZ (al : Int))), (3, .int (iZ (r : Int))), (0, .ref mo), (1, .int (iZ (x : Int))), (2, .int (iZ (y : Int)))] [] V sz Q
  | 0, k, nq, hf, hk1, V, z, hmo, hM, hV, h13, h14, hI => by
    refine aw_iload dX6_quotient_186 (by rfl) ?_
    refine aw_iload_n dX6_quotient_188 (by rfl) ?_
    refine aw_icmp_gtZ (tgt := 363) dX6_quotient_189 (by decide) (by omega) (by omega) (fun hc_189 => ?_) (fun hc_189 => ?_)
    · refine aw_pk [5, 4, 3, 0, 1, 2] (by rfl) ?_
      have hrk : r = k - 1 := by omega
      rw [← hrk] at hI
      exact hKK hmo hM hV h13 h14 hI
    · exact absurd hc_189 (by omega)
  | f + 1, k, nq, hf, hk1, V, z, hmo, hM, hV, h13, h14, hI => by
    have IH := fun k nq hk => @qk_loop d g V0 mo sz x y r al rk kn ar ac zs G C Q hr5 hal hCb hC hG hKK f k nq hk
    have hn5 : nq ≤ k - 1 := by rw [hI.2.1]; exact szc_le _ _ _
    have hszk : szc 0 (fun a => G (a + 1) / G a) k = szc 0 (fun a => G (a + 1) / G a) (k - 1) + (if (0 : Nat) = 1 ∨ G k / G (k - 1) ≠ 1 then 1 else 0) := by
      obtain ⟨e, rfl⟩ : ∃ e, k = e + 1 := ⟨k - 1, by omega⟩
      rfl
    refine aw_iload dX6_quotient_186 (by rfl) ?_
    refine aw_iload_n dX6_quotient_188 (by rfl) ?_
    refine aw_icmp_gtZ (tgt := 363) dX6_quotient_189 (by decide) (by omega) (by omega) (fun hc_189 => ?_) (fun hc_189 => ?_)
    · exact absurd hc_189 (by omega)
    · refine aw_aload_n dX6_quotient_192 (by rfl) (Or.inr ⟨_, rfl⟩) ?_
      refine aw_sipushZ dX6_quotient_193 (by decide) ?_
      refine aw_topi (y := ((426 : Nat) : Int)) (by omega) ?_
      refine aw_lconstZ (z := 0) dX6_quotient_196 (by decide) ?_
      refine aw_callv vX6_83 dX6_quotient_197 hmo (m_becomes g (d + 2) (c := 426) (v := 0) ⟨_, _, _, _, hmo⟩ hM (by omega) (by omega)) (by rfl) (by rfl) (by omega) (Nat.le_of_ble_eq_true rfl) ?_
      rintro _ V1 _ _ _ ⟨rfl, rfl, rfl, hE1, rfl, hM1⟩ -
      refine q0 ?_
      refine aw_iconstZ dX6_quotient_200 ?_
      refine aw_istore dX6_quotient_201 (by decide) ?_
      refine aw_pk [7, 6, 5, 4, 3, 0, 1, 2] (by rfl) ?_
      have hddp : 0 < G k / G (k - 1) := by
        have h9 := (gc_chain hG (k - 1) (by omega)).2
        rw [show k - 1 + 1 = k by omega] at h9
        exact h9
      refine qg_p d (V0 := V0) (zs := upF z 426 0) (rk := rk) (kn := kn) (ar := ar) (ac := ac) hr5 hal (by omega) (fun a e ha he => by rw [upF_ne _ _ (by omega), hI.2.2.2 _ (by unfold InE2 InF; omega)]; exact hCb a e ha he) (fun {V2 z2} hmo2 hM2 hV2 h132 h142 hF2 hI2 => ?_) (2 ^ r) 0 (by omega) ((hE1 mo (by unfold EN; omega)).trans hmo) hM1 (fun a ha => (hE1 a (fun z => ha (Or.inl z))).trans (hV a ha)) (by obtain ⟨F, hF⟩ := h13; exact ⟨F, (hE1 _ (by unfold EN; omega)).trans hF⟩) (by obtain ⟨F, hF⟩ := h14; exact ⟨F, (hE1 _ (by unfold EN; omega)).trans hF⟩) (fun _ _ => rfl) (by rw [upF_self]; exact QzI.zero)
      have hgk : z2 426 = G k := by
        have h8 := hI2.fin (by omega) hr5 hal
        refine GcP.uniq (A := C) ⟨h8.1, fun d => (h8.2 d).trans ⟨fun hz => hz.cong (fun i j hi hj => ?_), fun hz => hz.cong (fun i j hi hj => ?_)⟩⟩ (hG k (by omega)).1
        · show upF z 426 0 _ = C i j
          rw [hC i j hi hj, upF_ne _ _ (by omega), hI.2.2.2 _ (by unfold InE2 InF; omega)]
        · show C i j = upF z 426 0 _
          rw [hC i j hi hj, upF_ne _ _ (by omega), hI.2.2.2 _ (by unfold InE2 InF; omega)]
      have hz427 : z2 427 = G (k - 1) := by rw [hF2 _ (by unfold InF; omega), upF_ne _ _ (by omega)]; exact hI.1
      refine aw_aload_n dX6_quotient_292 (by rfl) (Or.inr ⟨_, rfl⟩) ?_
      refine aw_sipushZ dX6_quotient_293 (by decide) ?_
      refine aw_topi (y := ((426 : Nat) : Int)) (by omega) ?_
      refine aw_sipushZ dX6_quotient_296 (by decide) ?_
      refine aw_topi (y := ((427 : Nat) : Int)) (by omega) ?_
      refine aw_sipushZ dX6_quotient_299 (by decide) ?_
      refine aw_topi (y := ((428 : Nat) : Int)) (by omega) ?_
      refine aw_callv vX6_91 dX6_quotient_302 hmo2 (m_div g (d + 1) (a := 426) (e := 427) (c := 428) hmo2 hM2 (by omega) (by omega) (by omega) (by omega) (by omega) (by rw [hz427]; exact (hG (k - 1) (by omega)).2)) (by rfl) (by rfl) (by omega) (Nat.le_of_ble_eq_true rfl) ?_
      rintro _ V3 _ _ _ ⟨rfl, rfl, rfl, hE3, rfl, hM3⟩ -
      refine q0 ?_
      have hmo3 := (hE3 mo (by unfold EN; omega)).trans hmo2
      rw [hz427, hgk, Int.tdiv_eq_ediv_of_nonneg (hG k (by omega)).1.1] at hM3
      refine aw_aload_n dX6_quotient_305 (by rfl) (Or.inr ⟨_, rfl⟩) ?_
      refine aw_sipushZ dX6_quotient_306 (by decide) ?_
      refine aw_topi (y := ((426 : Nat) : Int)) (by omega) ?_
      refine aw_sipushZ dX6_quotient_309 (by decide) ?_
      refine aw_topi (y := ((427 : Nat) : Int)) (by omega) ?_
      refine aw_callv vX6_67 dX6_quotient_312 hmo3 (m_copies g (d + 2) (a := 426) (c := 427) ⟨_, _, _, _, hmo3⟩ hM3 (by omega) (by omega)) (by rfl) (by rfl) (by omega) (Nat.le_of_ble_eq_true rfl) ?_
      rintro _ V4 _ _ _ ⟨rfl, rfl, rfl, hE4, rfl, hM4⟩ -
      refine q0 ?_
      have hmo4 := (hE4 mo (by unfold EN; omega)).trans hmo3
      rw [upF_ne _ _ (show (426 : Nat) ≠ 428 by omega), hgk] at hM4
      obtain ⟨D, LN, SG, O1, O2, hA, h0⟩ := id hM4
      obtain ⟨n1, n2, n3⟩ := nu_one (h0 428 (by omega)) (by rw [upF_ne _ _ (by omega), upF_self]; exact hddp)
      rw [upF_ne _ _ (show (428 : Nat) ≠ 427 by omega), upF_self] at n2 n3
      have hV4 : ∀ a, ¬ (EN mo a ∨ ERC mo a) → V4 a = V0 a := fun a ha => (hE4 a (fun z => ha (Or.inl z))).trans ((hE3 a (fun z => ha (Or.inl z))).trans (hV2 a ha))
      have h134 : ∃ F : Nat → Int, V4 (mo + 13) = some (aIz g 5 F) := by obtain ⟨F, hF⟩ := h132; exact ⟨F, (hE4 _ (by unfold EN; omega)).trans ((hE3 _ (by unfold EN; omega)).trans hF)⟩
      have h144 : ∃ F : Nat → Int, V4 (mo + 14) = some (aIz g 5 F) := by obtain ⟨F, hF⟩ := h142; exact ⟨F, (hE4 _ (by unfold EN; omega)).trans ((hE3 _ (by unfold EN; omega)).trans hF)⟩
      have hz4 : ∀ q, ¬ InF q → q ≠ 427 → q ≠ 428 → upF (upF z2 428 (G k / G (k - 1))) 427 (G k) q = z q := fun q h1 h2 h3 => by
        rw [upF_ne _ _ h2, upF_ne _ _ h3, hF2 q h1, upF_ne _ _ (by unfold InF at h1; omega)]
      have K341 : G k / G (k - 1) ≠ 1 → AW g mX6_quotient (d + 3) 341 [(6, .int (iZ (k : Int))), (5, .int (iZ (nq : Int))), (4, .int (iZ (al : Int))), (3, .int (iZ (r : Int))), (0, .ref mo), (1, .int (iZ (x : Int))), (2, .int (iZ (y : Int)))] [] V4 sz Q := fun hne => by
        refine aw_aload_n dX6_quotient_341 (by rfl) (Or.inr ⟨_, rfl⟩) ?_
        refine aw_sipushZ dX6_quotient_342 (by decide) ?_
        refine aw_topi (y := ((428 : Nat) : Int)) (by omega) ?_
        refine aw_sipushZ dX6_quotient_345 (by decide) ?_
        refine aw_iload dX6_quotient_348 (by rfl) ?_
        refine aw_iaddZ dX6_quotient_350 ?_
        refine aw_topi (y := ((265 + nq : Nat) : Int)) (by omega) ?_
        refine aw_callv vX6_67 dX6_quotient_351 hmo4 (m_copies g (d + 2) (a := 428) (c := 265 + nq) ⟨_, _, _, _, hmo4⟩ hM4 (by omega) (by omega)) (by rfl) (by rfl) (by omega) (Nat.le_of_ble_eq_true rfl) ?_
        rintro _ V5 _ _ _ ⟨rfl, rfl, rfl, hE5, rfl, hM5⟩ -
        refine q0 ?_
        rw [upF_ne _ _ (show (428 : Nat) ≠ 427 by omega), upF_self] at hM5
        refine aw_iincZ dX6_quotient_354 (by rfl) (by decide) ?_
        refine aw_iincZ dX6_quotient_357 (by rfl) (by decide) ?_
        refine aw_goto (tgt := 186) dX6_quotient_360 (by decide) ?_
        rw [show ((nq : Int) + 1) = ((nq + 1 : Nat) : Int) by omega, show ((k : Int) + 1) = ((k + 1 : Nat) : Int) by omega]
        refine aw_pk [6, 5, 4, 3, 0, 1, 2] (by rfl) ?_
        refine IH (k + 1) (nq + 1) (by omega) (by omega) ((hE5 mo (by unfold EN; omega)).trans hmo4) hM5 (fun a ha => (hE5 a (fun z => ha (Or.inl z))).trans (hV4 a ha)) (by obtain ⟨F, hF⟩ := h134; exact ⟨F, (hE5 _ (by unfold EN; omega)).trans hF⟩) (by obtain ⟨F, hF⟩ := h144; exact ⟨F, (hE5 _ (by unfold EN; omega)).trans hF⟩) ?_
        rw [show k + 1 - 1 = k by omega]
        refine ⟨?_, ?_, fun a ha hd => ?_, fun q hq => ?_⟩
        · rw [upF_ne _ _ (by omega), upF_self]
        · rw [hszk, if_pos (Or.inr hne), ← hI.2.1]
        · by_cases c : a = k - 1
          · rw [c, ← hI.2.1, upF_self, show k - 1 + 1 = k by omega]
          · have h7 := szc_lt (o := 0) (dd := fun a => G (a + 1) / G a) (a := a) (Or.inr hd) (k - 1 - a - 1)
            rw [show a + 1 + (k - 1 - a - 1) = k - 1 by omega, ← hI.2.1] at h7
            rw [upF_ne _ _ (by omega), hz4 _ (by unfold InF; omega) (by omega) (by omega)]
            exact hI.2.2.1 a (by omega) hd
        · unfold InE2 at hq
          rw [upF_ne _ _ (by omega), hz4 q (fun z => hq (Or.inl z)) (by omega) (by omega)]
          exact hI.2.2.2 q hq
      refine aw_aload_n dX6_quotient_315 (by rfl) (Or.inr ⟨_, rfl⟩) ?_
      refine aw_get fX6_14 dX6_quotient_316 hmo4 (by rfl) ?_
      refine aw_sipushZ dX6_quotient_319 (by decide) ?_
      refine aw_ialdZ (428) dX6_quotient_322 hA.2.1 (by omega) (by omega) (by omega) ?_
      refine aw_iconstZ dX6_quotient_323 ?_
      refine aw_icmp_neZ (tgt := 341) dX6_quotient_324 (by decide) (by omega) (by omega) (fun hc_324 => ?_) (fun hc_324 => ?_)
      · refine aw_pk [6, 5, 4, 3, 0, 1, 2] (by rfl) ?_
        exact K341 (fun z => hc_324 (n3 z))
      · refine aw_aload_n dX6_quotient_327 (by rfl) (Or.inr ⟨_, rfl⟩) ?_
        refine aw_get fX6_8 dX6_quotient_328 hmo4 (by rfl) ?_
        refine aw_ldcZ (z := 42800) qX6_239 dX6_quotient_331 (by decide) ?_
        refine aw_ialdZ (42800) dX6_quotient_333 hA.1 (by omega) (by omega) (by omega) ?_
        refine aw_iconstZ dX6_quotient_334 ?_
        refine aw_icmp_neZ (tgt := 341) dX6_quotient_335 (by decide) (by have := n2 (by omega); rw [show 100 * 428 = 42800 by omega] at this; omega) (by omega) (fun hc_335 => ?_) (fun hc_335 => ?_)
        · refine aw_pk [6, 5, 4, 3, 0, 1, 2] (by rfl) ?_
          exact K341 (fun z => hc_335 (by have := (n2 (by omega)).1; rw [show 100 * 428 = 42800 by omega] at this; omega))
        · refine aw_goto (tgt := 357) dX6_quotient_338 (by decide) ?_
          refine aw_iincZ dX6_quotient_357 (by rfl) (by decide) ?_
          refine aw_goto (tgt := 186) dX6_quotient_360 (by decide) ?_
          rw [show ((k : Int) + 1) = ((k + 1 : Nat) : Int) by omega]
          refine aw_pk [6, 5, 4, 3, 0, 1, 2] (by rfl) ?_
          refine IH (k + 1) nq (by omega) (by omega) hmo4 hM4 hV4 h134 h144 ?_
          rw [show k + 1 - 1 = k by omega]
          have h1 : G k / G (k - 1) = 1 := by
            have q1 := (n2 (by omega)).1
            rw [show 100 * 428 = 42800 by omega] at q1
            omega
          refine ⟨?_, ?_, fun a ha hd => ?_, fun q hq => ?_⟩
          · rw [upF_self]
          · rw [hszk, if_neg (by rw [h1]; omega), Nat.add_zero]; exact hI.2.1
          · by_cases c : a = k - 1
            · rw [c, show k - 1 + 1 = k by omega] at hd; exact absurd h1 hd
            · have h7 := szc_lt (o := 0) (dd := fun a => G (a + 1) / G a) (a := a) (Or.inr hd) (k - 1 - a - 1)
              rw [show a + 1 + (k - 1 - a - 1) = k - 1 by omega, ← hI.2.1] at h7
              rw [hz4 _ (by unfold InF; omega) (by omega) (by omega)]
              exact hI.2.2.1 a (by omega) hd
          · unfold InE2 at hq
            rw [hz4 q (fun z => hq (Or.inl z)) (by omega) (by omega)]
            exact hI.2.2.2 q hq
set_option maxRecDepth 20000 in
theorem m_quotient (g : GX) (d : Nat) {V : AH} {mo sz : Nat} {zs : Nat → Int} {S : TSt} {A : ASt} {t u : Int} (hR : RX g mo V zs S A) (ht : R32 t) (hu : R32 u) : AMet g mX6_quotient (d + 10) [.ref mo, .int (iZ t), .int (iZ u)] V sz (RE g mo V sz (AlkR S A t u (-1) (QuoR S A))) := by
  obtain ⟨⟨rk, kn, hmo⟩, -, -, -, -, -, hT, -, -, o1, -⟩ := id hR
  have hcb : ∀ n, n < 12 → S.c n ≤ 5 := fun n hn => (o1 n hn).2.1
  refine AMet.of rfl rfl (Nat.le_of_ble_eq_true rfl) ?_
  show AW g mX6_quotient (d + 10) 0 [(0, .ref mo), (1, .int (iZ t)), (2, .int (iZ u))] [] V sz _
  refine aw_aload_n dX6_quotient_0 (by rfl) (Or.inr ⟨_, rfl⟩) ?_
  refine aw_iload_n dX6_quotient_1 (by rfl) ?_
  refine aw_iload_n dX6_quotient_2 (by rfl) ?_
  refine aw_callv vX6_186 dX6_quotient_3 hmo (m_areAlike g (d + 8) (t := t) (u := u) hmo hT ht hu hcb) (by rfl) (by rfl) (by omega) (Nat.le_of_ble_eq_true rfl) ?_
  rintro _ _ _ _ _ ⟨rfl, rfl, rfl, rfl, rfl⟩ -
  refine q0 ?_
  refine aw_if_neZ (tgt := 11) dX6_quotient_6 (by decide) (alZ_R _ _ _) (fun hc_6 => ?_) (fun hc_6 => ?_)
  · obtain ⟨x, y, hx, hy, rfl, rfl, hrx, hry, hcc⟩ := alZ_yes hc_6
    refine aw_aload_n dX6_quotient_11 (by rfl) (Or.inr ⟨_, rfl⟩) ?_
    refine aw_iload_n dX6_quotient_12 (by rfl) ?_
    refine aw_iload_n dX6_quotient_13 (by rfl) ?_
    refine aw_callv vX6_227 dX6_quotient_14 hmo (m_isWithin g d (x := x) (y := y) hR hx hy hcc) (by rfl) (by rfl) (by omega) (Nat.le_of_ble_eq_true rfl) ?_
    rintro _ V1 _ _ _ ⟨rfl, rfl, rfl, hE1, ⟨r1, κ1, l1, lk1, z1, z2, hC1, hst1, hsp1, hn1, hF1, hF2⟩, hres⟩ -
    refine q0 ?_
    have hRX := hR.calc hC1 hE1 (fun q h1 h2 => by rw [hF1 q (by unfold InW; omega), hF2 q (by unfold InC; omega)])
    obtain ⟨RW1, RK1, hmo1, hra1, hrk1, hl1, hlk1, hM1, hl51⟩ := id hC1
    rcases hres with ⟨rfl, hw⟩ | ⟨rfl, hw⟩
    · refine aw_if_neZ (tgt := 23) dX6_quotient_17 (by decide) (by omega) (fun _ => ?_) (fun h => absurd h (by decide))
      refine aw_aload_n dX6_quotient_23 (by rfl) (Or.inr ⟨_, rfl⟩) ?_
      refine aw_iload_n dX6_quotient_24 (by rfl) ?_
      refine aw_callv vX6_165 dX6_quotient_25 hmo1 (m_stairOf g (d + 1) (t := x) hRX hx) (by rfl) (by rfl) (by omega) (Nat.le_of_ble_eq_true rfl) ?_
      rintro _ V2 _ _ _ ⟨rfl, rfl, rfl, hE2, rfl, r3, κ3, l3, lk3, z3, hC3, -, -, -, -, hst3, hsp3, hn3, hF3⟩ -
      refine q0 ?_
      obtain ⟨RW3, RK3, hmo3, hra3, hrk3, hl3, hlk3, hM3, hl53⟩ := id hC3
      obtain ⟨x1, x2, x3, x4⟩ := stt_of o1 hx hl53 hst3 hsp3 hn3
      have hRX3 := hRX.calc hC3 hE2 (fun q h1 h2 => hF3 q (by unfold InC; omega))
      refine aw_aload_n dX6_quotient_28 (by rfl) (Or.inr ⟨_, rfl⟩) ?_
      refine aw_get fX6_117 dX6_quotient_29 hmo3 (by rfl) ?_
      refine aw_istore_n dX6_quotient_32 (by decide) ?_
      refine aw_aload_n dX6_quotient_33 (by rfl) (Or.inr ⟨_, rfl⟩) ?_
      refine aw_sipushZ dX6_quotient_34 (by decide) ?_
      refine aw_callv vX6_233 dX6_quotient_37 hmo3 (m_keeps g (d + 8) hmo3 hM3 x3) (by rfl) (by rfl) (by omega) (Nat.le_of_ble_eq_true rfl) ?_
      rintro _ V4 _ _ _ ⟨rfl, rfl, rfl, hE4, rfl, z4, hM4, hK4⟩ -
      refine q0 ?_
      have hmo4 := (hE4 mo (by unfold EN; omega)).trans hmo3
      have hC4 : CSt g mo V4 r3 κ3 (arZ A) (acZ A) l3 lk3 z4 := ⟨RW3, RK3, hmo4, (hE4 _ (by unfold EN; omega)).trans hra3, (hE4 _ (by unfold EN; omega)).trans hrk3, hl3, hlk3, hM4, hl53⟩
      have hRX4 := hRX3.calc hC4 (fun a ha => hE4 a (fun z => ha (by unfold EN at z; unfold EC; omega))) (fun q h1 h2 => hK4.2 q (by omega))
      refine aw_aload_n dX6_quotient_40 (by rfl) (Or.inr ⟨_, rfl⟩) ?_
      refine aw_iload_n dX6_quotient_41 (by rfl) ?_
      refine aw_callv vX6_165 dX6_quotient_42 hmo4 (m_stairOf g (d + 1) (t := y) hRX4 hy) (by rfl) (by rfl) (by omega) (Nat.le_of_ble_eq_true rfl) ?_
      rintro _ V5 _ _ _ ⟨rfl, rfl, rfl, hE5, rfl, r5, κ5, l5, lk5, z5, hC5, -, -, -, -, hst5, hsp5, hn5, hF5⟩ -
      refine q0 ?_
      obtain ⟨RW5, RK5, hmo5, hra5, hrk5, hl5, hlk5, hM5, hl55⟩ := id hC5
      obtain ⟨y1, y2, y3, y4⟩ := stt_of o1 hy hl55 hst5 hsp5 hn5
      have hRX5 := hRX4.calc hC5 hE5 (fun q h1 h2 => hF5 q (by unfold InC; omega))
      have qx5 := (o1 x hx).1
      have qy5 := (o1 y hy).1
      have hcx5 := (o1 x hx).2.1
      have h390 : ∀ i j, i < r3 → j < 5 → z5 (390 + 5 * i + j) = z3 (15 * i + j) := fun i j hi hj => by
        rw [hF5 _ (by unfold InC; omega)]; exact hK4.1 i j (Or.inl ⟨hi, hj⟩)
      have hNx : ∀ i j, i < S.r x → j < 5 → ab (TM (S.N x) i j) ≤ 1000 := fun a b ha hb => by
        have := (o1 x hx).2.2.2.1 (5 * a + b) (by omega)
        show ab (S.N x (5 * a + b)) ≤ 1000
        unfold ab; omega
      have hNy : ∀ i j, i < S.r y → j < 5 → ab (TM (S.N y) i j) ≤ 1000 := fun a b ha hb => by
        have := (o1 y hy).2.2.2.1 (5 * a + b) (by omega)
        show ab (S.N y (5 * a + b)) ≤ 1000
        unfold ab; omega
      have hrow : ∀ i j, i < r3 → j < 5 → ab (z5 (390 + 5 * i + j)) ≤ 10 * TM10 := fun i j hi hj => by
        have h9 := hst3.bdm (tu_lbm hNx) hsp3 (by omega) (i := i) (by omega) (j := j) (by omega)
        rw [cm_s hi] at h9
        rw [h390 i j hi hj]; exact h9
      have hB0y : ∀ i j, i < r5 → S.c y ≤ j → j < 5 → z5 (15 * i + j) = 0 := fun i j hi h1 h2 => by
        obtain ⟨cf, hcf⟩ := (hsp5 (CMx r5 z5 i)).mpr (Span.row (by omega))
        have h9 := hcf j (by omega)
        rw [cm_s hi] at h9
        rw [h9]
        refine Sg_zero (fun k hk => ?_)
        unfold GTx
        rw [if_pos h2]
        show cf k * S.N y (5 * k + j) = 0
        rw [(o1 y hy).2.2.2.2.2.1 k j (by omega) h2 (Or.inr (Or.inl h1)), Int.mul_zero]
      have hB0x : ∀ i j, i < r3 → S.c x ≤ j → j < 5 → z3 (15 * i + j) = 0 := fun i j hi h1 h2 => by
        obtain ⟨cf, hcf⟩ := (hsp3 (CMx r3 z3 i)).mpr (Span.row (by omega))
        have h9 := hcf j (by omega)
        rw [cm_s hi] at h9
        rw [h9]
        refine Sg_zero (fun k hk => ?_)
        unfold GTx
        rw [if_pos h2]
        show cf k * S.N x (5 * k + j) = 0
        rw [(o1 x hx).2.2.2.2.2.1 k j (by omega) h2 (Or.inr (Or.inl h1)), Int.mul_zero]
      have hin : ∀ i, i < r3 → Span (B5 z5) r5 5 (fun j => z5 (390 + 5 * i + j)) := fun i hi => by
        refine (b5_sp (z' := z5) (zs := z5) (N := S.N y) (n := S.r y) (c := S.c y) (o1 y hy).2.1 (by omega) y1.2 (fun _ _ => rfl) hB0y (fun j h1 h2 => by rw [h390 i j hi h2]; exact hB0x i j hi (by omega) h2)).mpr ?_
        have h8 : Span (TM (S.N x)) (S.r x) (S.c x) (CPx (S.c x) r3 z3 i) := (x1.2 _).mpr (Span.row hi)
        rw [hcc] at h8
        exact (span_sub (fun a ha => hw a ha) h8).congr (fun j hj => by rw [h390 i j hi (by omega), ← hcc, cp_s hi (by omega)])
      have hT5 : RTb g mo V5 S := by obtain ⟨-, -, -, -, -, -, hT5, -⟩ := id hRX5; exact hT5
      refine aw_aload_n dX6_quotient_45 (by rfl) (Or.inr ⟨_, rfl⟩) ?_
      refine aw_get fX6_117 dX6_quotient_46 hmo5 (by rfl) ?_
      refine aw_istore dX6_quotient_49 (by decide) ?_
      refine aw_iconstZ dX6_quotient_51 ?_
      refine aw_istore dX6_quotient_52 (by decide) ?_
      refine aw_pk [5, 4, 3, 0, 1, 2] (by rfl) ?_
      refine qm_i (d + 4) (V0 := V5) (zs := z5) (κ := κ5) (RW := RW5) (N := TM (S.N y)) (n := S.r y) (l := l5) (lk := lk5) x3 y3 hra5 hl5 hst5 hl55 hsp5 hNy (by omega) hrow hin (fun {V6 z6} hmo6 hM6 hV6 hI6 => ?_) r3 0 (by omega) hmo5 hM5 (fun _ _ => rfl) ⟨fun a j ha => absurd ha (by omega), fun _ _ => rfl⟩
      have hB1 : ∀ i j, i < r3 → j < S.c x → CPx (S.c x) r3 z3 i j = Sg (fun e => z6 (365 + 5 * i + e) * CPx (S.c y) r5 z5 e j) r5 := fun i j hi hj => by
        rw [cp_s hi hj, ← h390 i j hi (by omega), hI6.1 i j hi (by omega)]
        exact Sg_congr (fun e he => by rw [cp_s he (by omega)])
      have hCb : ∀ a e, a < r3 → e < r5 → ab (z6 (365 + 5 * a + e)) ≤ QX := fun a e ha he => by
        have y1' := y1.1
        rw [← hcc] at y1'
        have h3 := mul_bd y1' (b := CPx (S.c x) r3 z3 a) (m := fun e => z6 (365 + 5 * a + e)) (X := 10 * TM10) (fun j hj => by rw [hB1 a j ha hj, hcc]) (fun j hj => by rw [cp_s ha hj, ← h390 a j ha (by omega)]; exact hrow a j ha (by omega)) (by have := tm10; omega) (e + 1) (by omega)
        have h4 := two_le (show e + 1 ≤ 5 by omega)
        have h5 : (2 : Int) ^ 5 = 32 := by decide
        have h6 : Sg (fun i_1 => ab (z6 (365 + 5 * a + i_1))) (e + 1) = Sg (fun i_1 => ab (z6 (365 + 5 * a + i_1))) e + ab (z6 (365 + 5 * a + e)) := rfl
        have h7 : 0 ≤ Sg (fun i_1 => ab (z6 (365 + 5 * a + i_1))) e := Sg_nn (fun i _ => ab0 _)
        have h8 : 10 * TM10 * (2 ^ (e + 1) - 1) ≤ 10 * TM10 * 31 := Int.mul_le_mul_of_nonneg_left (by omega) (by have := tm10; omega)
        have h9 : Sg (fun i_1 => ab (z6 (365 + 5 * a + i_1))) (e + 1) ≤ 10 * TM10 * (2 ^ (e + 1) - 1) := h3
        unfold QX
        omega
      obtain ⟨C, hCd⟩ : ∃ C : Mat, C = fun a e => z6 (365 + 5 * a + e) := ⟨_, rfl⟩
      have hnd : ¬ DVT r3 C r3 r5 0 := fun z => ech_not0 x1.1.1 (dvt_mul (fun i j hi hj => by rw [hB1 i j hi hj, hCd]) z)
      have hup : ∀ n k, k + n = r3 → ¬ DVT k C r3 r5 0 := by
        intro n
        induction n with
        | zero => intro k hk z; rw [show k = r3 by omega] at z; exact hnd z
        | succ n ih => intro k hk z; exact ih (k + 1) (by omega) (dvt_up z)
      obtain ⟨G, hG0⟩ := Classical.axiomOfChoice (fun k : Nat => show ∃ xx : Int, k ≤ r3 → GcP k C r3 r5 xx from by
        by_cases q : k ≤ r3
        · obtain ⟨xx, hxx⟩ := gcp_ex (C := C) (k := k) (r := r3) (c := r5) (by omega) (by omega) (by omega)
          exact ⟨xx, fun _ => hxx⟩
        · exact ⟨0, fun z => absurd z q⟩)
      have hG : ∀ k, k ≤ r3 → GcP k C r3 r5 (G k) ∧ G k ≠ 0 := fun k hk => ⟨hG0 k hk, fun z => hup (r3 - k) k (by omega) (((hG0 k hk).2 0).mp (by rw [z]; exact dvd_z 0))⟩
      have hG1 : G 0 = 1 := GcP.uniq (hG 0 (by omega)).1 (gcp_0 (A := C) (r := r3) (c := r5))
      refine aw_iconstZ dX6_quotient_172 ?_
      refine aw_istore dX6_quotient_173 (by decide) ?_
      refine aw_aload_n dX6_quotient_175 (by rfl) (Or.inr ⟨_, rfl⟩) ?_
      refine aw_sipushZ dX6_quotient_176 (by decide) ?_
      refine aw_topi (y := ((427 : Nat) : Int)) (by omega) ?_
      refine aw_lconstZ (z := 1) dX6_quotient_179 (by decide) ?_
      refine aw_callv vX6_83 dX6_quotient_180 hmo6 (m_becomes g (d + 9) (c := 427) (v := 1) ⟨_, _, _, _, hmo6⟩ hM6 (by omega) (by omega)) (by rfl) (by rfl) (by omega) (Nat.le_of_ble_eq_true rfl) ?_
      rintro _ V7 _ _ _ ⟨rfl, rfl, rfl, hE7, rfl, hM7⟩ -
      refine q0 ?_
      have hmo7 := (hE7 mo (by unfold EN; omega)).trans hmo6
      refine aw_iconstZ dX6_quotient_183 ?_
      refine aw_istore dX6_quotient_184 (by decide) ?_
      obtain ⟨h137, h147⟩ : (∃ F : Nat → Int, V7 (mo + 13) = some (aIz g 5 F)) ∧ ∃ F : Nat → Int, V7 (mo + 14) = some (aIz g 5 F) := by
        obtain ⟨-, -, -, ⟨F13, q13⟩, ⟨F14, q14⟩, -⟩ := id hRX5
        exact ⟨⟨F13, (hE7 _ (by unfold EN; omega)).trans ((hV6 _ (by unfold EN; omega)).trans q13)⟩, ⟨F14, (hE7 _ (by unfold EN; omega)).trans ((hV6 _ (by unfold EN; omega)).trans q14)⟩⟩
      refine aw_pk [6, 5, 4, 3, 0, 1, 2] (by rfl) ?_
      refine qk_loop (d + 7) (V0 := V7) (zs := upF z6 427 1) (G := G) (rk := (r5 : Int)) (kn := (κ5 : Int)) (ar := arZ A) (ac := acZ A) x3 y3 (fun a e ha he => by rw [upF_ne _ _ (by omega)]; exact hCb a e ha he) (fun a e ha he => by rw [upF_ne _ _ (by omega), hCd]) hG (fun {V8 z8 nq} hmo8 hM8 hV8 h138 h148 hI8 => ?_) r3 1 0 (by omega) (by omega) hmo7 hM7 (fun _ _ => rfl) h137 h147 ⟨by rw [upF_self]; exact hG1.symm, rfl, fun a ha => absurd ha (by omega), fun _ _ => rfl⟩
      have hn58 : nq ≤ r3 := by rw [hI8.2.1]; exact szc_le _ _ _
      have K374 : ∀ {w : Int}, w = (((if nq = 0 then 0 else 1 : Nat)) : Int) → AW g mX6_quotient (d + 10) 374 [(5, .int (iZ (nq : Int))), (4, .int (iZ (r5 : Int))), (3, .int (iZ (r3 : Int))), (0, .ref mo), (1, .int (iZ (x : Int))), (2, .int (iZ (y : Int)))] [.int (iZ w), .ref mo] V8 sz (RE g mo V sz (AlkR S A (x : Int) (y : Int) (-1) (QuoR S A))) := fun {w} hw374 => by
        rw [hw374]
        refine aw_iload dX6_quotient_374 (by rfl) ?_
        refine aw_callv vX6_189 dX6_quotient_376 hmo8 (m_tells g (d + 9) (h := if nq = 0 then 0 else 1) (w := nq) hmo8 (by split <;> omega)) (by rfl) (by rfl) (by omega) (Nat.le_of_ble_eq_true rfl) ?_
        rintro _ V9 _ _ _ ⟨rfl, rfl, rfl, hE9, rfl, hmo9⟩ -
        refine q0 ?_
        refine aw_bipushZ dX6_quotient_379 (by decide) ?_
        refine aw_iload dX6_quotient_381 (by rfl) ?_
        refine aw_iload_n dX6_quotient_383 (by rfl) ?_
        refine aw_isubZ dX6_quotient_384 ?_
        refine aw_imulZ dX6_quotient_385 ?_
        refine aw_iload dX6_quotient_386 (by rfl) ?_
        refine aw_iaddZ dX6_quotient_388 ?_
        refine aw_iret dX6_quotient_389 rfl (by rfl) ?_
        refine ⟨rfl, rfl, rfl, fun a ha => ?_, z8, S, (1, (if nq = 0 then 0 else 1), (if (if nq = 0 then 0 else 1) = 0 then 0 else nq), fun _ j => z8 (265 + j)), ?_, rfl, Or.inl ⟨x, y, hx, hy, rfl, rfl, hrx, hry, hcc, Or.inr ⟨hw, r3, r5, l3, l5, _, _, C, fun a => G (a + 1) / G a, fun j => z8 (265 + j), x1, y1, fun i j hi hj => by rw [hB1 i j hi hj, hCd], fun a ha => (gc_chain hG a ha).2, fun k hk => by rw [gc_prod hG k hk]; exact (hG k hk).1, ?_, fun a ha hd => hI8.2.2.1 a ha hd, ?_⟩⟩⟩
        · exact (hE9 a (fun z => ha (by unfold EM; omega))).trans ((hV8 a (fun z => ha (by rcases z with z | z; (unfold EN at z; unfold EM; omega); (unfold ERC at z; unfold EM; omega)))).trans ((hE7 a (fun z => ha (by unfold EN at z; unfold EM; omega))).trans ((hV6 a (fun z => ha (by unfold EN at z; unfold EM; omega))).trans ((hE5 a (fun z => ha (by unfold EC at z; unfold EM; omega))).trans ((hE4 a (fun z => ha (by unfold EN at z; unfold EM; omega))).trans ((hE2 a (fun z => ha (by unfold EC at z; unfold EM; omega))).trans (hE1 a (fun z => ha (by unfold EC at z; unfold EM; omega)))))))))
        · obtain ⟨-, -, -, -, -, ⟨F15, h15⟩, -⟩ := id hRX5
          have hV9 : ∀ a, a ≠ mo → ¬ EN mo a → ¬ ERC mo a → V9 a = V5 a := fun a h1 h2 h3 => (hE9 a h1).trans ((hV8 a (fun z => z.elim h2 h3)).trans ((hE7 a h2).trans (hV6 a h2)))
          refine ⟨⟨(r5 : Int), (κ5 : Int), ?_⟩, ⟨RW5, (hV9 _ (by omega) (by unfold EN; omega) (by unfold ERC; omega)).trans hra5⟩, ⟨RK5, (hV9 _ (by omega) (by unfold EN; omega) (by unfold ERC; omega)).trans hrk5⟩, ?_, ?_, ⟨F15, (hV9 _ (by omega) (by unfold EN; omega) (by unfold ERC; omega)).trans h15⟩, hT5.kept2b (fun a h1 h2 => hV9 a (by omega) (by unfold EN; omega) (by unfold ERC; omega)), hM8.kept (fun a ha => hE9 a (by unfold EN at ha; omega)), fun i j hi hj => ?_, o1, ?_⟩
          · rw [hmo9]
            by_cases q : nq = 0
            · subst q; rfl
            · simp only [if_neg q]; rfl
          · obtain ⟨F, hF⟩ := h138; exact ⟨F, (hE9 _ (by omega)).trans hF⟩
          · obtain ⟨F, hF⟩ := h148; exact ⟨F, (hE9 _ (by omega)).trans hF⟩
          · have hi : i < (if nq = 0 then 0 else 1) := hi
            have hi0 : i = 0 := by split at hi <;> omega
            subst hi0
            rfl
          · refine ⟨Or.inr rfl, ?_, ?_, fun z => absurd z (by show ¬ (1 : Nat) = 0; omega)⟩
            · show (if nq = 0 then 0 else 1) ≤ 10
              split <;> omega
            · show (if (if nq = 0 then 0 else 1) = 0 then 0 else nq) ≤ 5
              by_cases q : nq = 0
              · rw [q]; decide
              · rw [if_neg q, if_neg (by omega)]; omega
        · rw [hI8.2.1]
        · rw [← hI8.2.1]
          exact ⟨rfl, rfl, rfl, fun _ _ _ _ => rfl⟩
      refine aw_aload_n dX6_quotient_363 (by rfl) (Or.inr ⟨_, rfl⟩) ?_
      refine aw_iload dX6_quotient_364 (by rfl) ?_
      refine aw_if_neZ (tgt := 373) dX6_quotient_366 (by decide) (by omega) (fun hc_366 => ?_) (fun hc_366 => ?_)
      · refine aw_iconstZ dX6_quotient_373 ?_
        exact K374 (by first | (rw [if_pos (by omega)]; rfl) | (rw [if_neg (by omega)]; rfl))
      · refine aw_iconstZ dX6_quotient_369 ?_
        refine aw_goto (tgt := 374) dX6_quotient_370 (by decide) ?_
        exact K374 (by first | (rw [if_pos (by omega)]; rfl) | (rw [if_neg (by omega)]; rfl))
    · refine aw_if_neZ (tgt := 23) dX6_quotient_17 (by decide) (by omega) (fun h => absurd rfl h) (fun _ => ?_)
      refine aw_bipushZ dX6_quotient_20 (by decide) ?_
      refine aw_iret dX6_quotient_22 rfl (by rfl) ?_
      exact ⟨rfl, rfl, rfl, fun a ha => hE1 a (fun z => ha (by unfold EC at z; unfold EM; omega)), z2, S, A, hRX, rfl, Or.inl ⟨x, y, hx, hy, rfl, rfl, hrx, hry, hcc, Or.inl ⟨rfl, hw, rfl⟩⟩⟩
  · have hno := alZ_no hc_6
    refine aw_iconstZ dX6_quotient_9 ?_
    refine aw_iret dX6_quotient_10 rfl (by rfl) ?_
    exact ⟨rfl, rfl, rfl, fun _ _ => rfl, zs, S, A, hR, rfl, Or.inr ⟨hno, rfl, rfl⟩⟩

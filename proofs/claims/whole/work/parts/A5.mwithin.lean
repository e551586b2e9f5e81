/-! ===== the reference: isWithin, within ===== -/
/-- in the Span of the stair's five columns, or of the table's rows -/
theorem b5_sp {zs z' N : Nat → Int} {c n r : Nat} (hc : c ≤ 5) (hr : r ≤ 10) (hsp : SpEq (TM N) n (CPx c r zs) r c) (hz : ∀ x, x < 150 → z' x = zs x) (hB0 : ∀ i j, i < r → c ≤ j → j < 5 → zs (15 * i + j) = 0) {R : Nat → Int} (hR0 : ∀ j, c ≤ j → j < 5 → R j = 0) : Span (B5 z') r 5 R ↔ Span (TM N) n c R := by
  rw [hsp R]
  constructor
  · rintro ⟨cf, hcf⟩
    refine ⟨cf, fun j hj => ?_⟩
    rw [hcf j (by omega)]
    exact Sg_congr (fun i hi => by rw [cp_s hi hj]; show cf i * z' (15 * i + j) = _; rw [hz _ (by omega)])
  · rintro ⟨cf, hcf⟩
    refine ⟨cf, fun j hj => ?_⟩
    by_cases e : j < c
    · rw [hcf j e]
      exact Sg_congr (fun i hi => by rw [cp_s hi e]; show _ = cf i * z' (15 * i + j); rw [hz _ (by omega)])
    · rw [hR0 j (by omega) hj]
      refine (Sg_zero (fun i hi => ?_)).symm
      show cf i * z' (15 * i + j) = 0
      rw [hz _ (by omega), hB0 i j hi (by omega) hj, Int.mul_zero]
abbrev mX6_isWithin : MI := (yX6_isWithin, cX6_isWithin, 5, (some FieldType.boolean), noX)
theorem dX6_isWithin_0 : decode cX6_isWithin 0 = .ok (.aload_n 0, 1) := by decide +kernel
theorem dX6_isWithin_1 : decode cX6_isWithin 1 = .ok (.iload_n 2, 1) := by decide +kernel
theorem dX6_isWithin_2 : decode cX6_isWithin 2 = .ok (.invokevirtual 165, 3) := by decide +kernel
theorem dX6_isWithin_5 : decode cX6_isWithin 5 = .ok (.iconst 1, 1) := by decide +kernel
theorem dX6_isWithin_6 : decode cX6_isWithin 6 = .ok (.istore_n 3, 1) := by decide +kernel
theorem dX6_isWithin_7 : decode cX6_isWithin 7 = .ok (.iconst 0, 1) := by decide +kernel
theorem dX6_isWithin_8 : decode cX6_isWithin 8 = .ok (.istore 4, 2) := by decide +kernel
theorem dX6_isWithin_10 : decode cX6_isWithin 10 = .ok (.iload 4, 2) := by decide +kernel
theorem dX6_isWithin_12 : decode cX6_isWithin 12 = .ok (.aload_n 0, 1) := by decide +kernel
theorem dX6_isWithin_13 : decode cX6_isWithin 13 = .ok (.getfield 37, 3) := by decide +kernel
theorem dX6_isWithin_16 : decode cX6_isWithin 16 = .ok (.iload_n 1, 1) := by decide +kernel
theorem dX6_isWithin_17 : decode cX6_isWithin 17 = .ok (.iaload, 1) := by decide +kernel
theorem dX6_isWithin_18 : decode cX6_isWithin 18 = .ok (.if_icmp .ge 28, 3) := by decide +kernel
theorem dX6_isWithin_21 : decode cX6_isWithin 21 = .ok (.iload_n 3, 1) := by decide +kernel
theorem dX6_isWithin_22 : decode cX6_isWithin 22 = .ok (.ifCond .eq 24, 3) := by decide +kernel
theorem dX6_isWithin_25 : decode cX6_isWithin 25 = .ok (.aload_n 0, 1) := by decide +kernel
theorem dX6_isWithin_26 : decode cX6_isWithin 26 = .ok (.iload_n 1, 1) := by decide +kernel
theorem dX6_isWithin_27 : decode cX6_isWithin 27 = .ok (.iload 4, 2) := by decide +kernel
theorem dX6_isWithin_29 : decode cX6_isWithin 29 = .ok (.invokevirtual 218, 3) := by decide +kernel
theorem dX6_isWithin_32 : decode cX6_isWithin 32 = .ok (.aload_n 0, 1) := by decide +kernel
theorem dX6_isWithin_33 : decode cX6_isWithin 33 = .ok (.sipush 450, 3) := by decide +kernel
theorem dX6_isWithin_36 : decode cX6_isWithin 36 = .ok (.invokevirtual 221, 3) := by decide +kernel
theorem dX6_isWithin_39 : decode cX6_isWithin 39 = .ok (.istore_n 3, 1) := by decide +kernel
theorem dX6_isWithin_40 : decode cX6_isWithin 40 = .ok (.iinc 4 1, 3) := by decide +kernel
theorem dX6_isWithin_43 : decode cX6_isWithin 43 = .ok (.goto (-33), 3) := by decide +kernel
theorem dX6_isWithin_46 : decode cX6_isWithin 46 = .ok (.iload_n 3, 1) := by decide +kernel
theorem dX6_isWithin_47 : decode cX6_isWithin 47 = .ok (.ireturn, 1) := by decide +kernel
theorem iw_loop (d : Nat) {g : GX} {V0 : AH} {mo sz x y r κ : Nat} {ar ac : Int} {zs RW : Nat → Int} {l lk : Nat → Nat} {S : TSt} (o1 : TOK S) (hx : x < 12) (hy : y < 12) (hcc : S.c x = S.c y) (hT0 : RTb g mo V0 S) (hra : V0 (mo + 6) = some (aIz g 11 RW)) (hl : ∀ i, i < r → RW i = (l i : Int)) (hst : Stair (CMx r zs) (r + κ) 15 (lcx r l lk)) (hl5 : ∀ i, i < r → l i < 5) (hsp : SpEq (GTx (TM (S.N y))) (S.r y) (CMx r zs) (r + κ) 15) (hNb : ∀ i j, i < S.r y → j < 5 → ab (TM (S.N y) i j) ≤ 1000) (hn : r + κ ≤ 5) (hspT : SpEq (TM (S.N y)) (S.r y) (CPx (S.c y) r zs) r (S.c y)) (hB0 : ∀ i j, i < r → S.c y ≤ j → j < 5 → zs (15 * i + j) = 0) : ∀ (f i : Nat), i + f = S.r x → ∀ {V : AH} {z : Nat → Int} {bq : Int}, V mo = some (moO mo r κ ar ac) → MN g mo V z → (∀ a, ¬ EN mo a → V a = V0 a) → Frm zs z InW → ((bq = 1 ∧ ∀ k, k < i → Span (TM (S.N y)) (S.r y) (S.c y) (TM (S.N x) k)) ∨ (bq = 0 ∧ ¬ WinP S x y)) → AW g mX6_isWithin (d + 4) 10 [(4, .int (iZ i)), (3, .int (iZ bq)), (0, .ref mo), (1, .int (iZ x)), (2, .int (iZ y))] [] V sz (VX V0 sz (EN mo) (fun q V' => (∃ z', MN g mo V' z' ∧ Frm zs z' InW) ∧ ((some (.int (iZ 1)) = q ∧ WinP S x y) ∨ (some (.int (iZ 0)) = q ∧ ¬ WinP S x y))))
  | 0, i, hf, V, z, bq, hmo, hM, hV, hF, hb => by
    obtain ⟨TH, RR, CC, NN, HH, h1, h2, h3, h4, h5, h6⟩ := id hT0
    have hRR := (hV (mo + 9) (by unfold EN; omega)).trans h2
    have hrx := (h6 x hx).2.1
    have hr5 := (o1 x hx).1
    refine aw_iload dX6_isWithin_10 (by rfl) ?_
    refine aw_aload_n dX6_isWithin_12 (by rfl) (Or.inr ⟨_, rfl⟩) ?_
    refine aw_get fX6_37 dX6_isWithin_13 hmo (by rfl) ?_
    refine aw_iload_n dX6_isWithin_16 (by rfl) ?_
    refine aw_ialdZ (x) dX6_isWithin_17 hRR (by omega) (by omega) (by omega) ?_
    rw [hrx]
    refine aw_icmp_geZ (tgt := 46) dX6_isWithin_18 (by decide) (by omega) (by omega) (fun hc_18 => ?_) (fun hc_18 => ?_)
    · rcases hb with ⟨rfl, hb⟩ | ⟨rfl, hb⟩
      · refine aw_iload_n dX6_isWithin_46 (by rfl) ?_
        refine aw_iret dX6_isWithin_47 rfl (by rfl) ?_
        exact ⟨rfl, rfl, rfl, hV, ⟨z, hM, hF⟩, Or.inl ⟨rfl, fun k hk => hb k (by omega)⟩⟩
      · refine aw_iload_n dX6_isWithin_46 (by rfl) ?_
        refine aw_iret dX6_isWithin_47 rfl (by rfl) ?_
        exact ⟨rfl, rfl, rfl, hV, ⟨z, hM, hF⟩, Or.inr ⟨rfl, hb⟩⟩
    · exact absurd hc_18 (by omega)
  | f + 1, i, hf, V, z, bq, hmo, hM, hV, hF, hb => by
    have IH := fun i hi => @iw_loop d g V0 mo sz x y r κ ar ac zs RW l lk S o1 hx hy hcc hT0 hra hl hst hl5 hsp hNb hn hspT hB0 f i hi
    obtain ⟨TH, RR, CC, NN, HH, h1, h2, h3, h4, h5, h6⟩ := id hT0
    have hRR := (hV (mo + 9) (by unfold EN; omega)).trans h2
    have hrx := (h6 x hx).2.1
    have hr5 := (o1 x hx).1
    refine aw_iload dX6_isWithin_10 (by rfl) ?_
    refine aw_aload_n dX6_isWithin_12 (by rfl) (Or.inr ⟨_, rfl⟩) ?_
    refine aw_get fX6_37 dX6_isWithin_13 hmo (by rfl) ?_
    refine aw_iload_n dX6_isWithin_16 (by rfl) ?_
    refine aw_ialdZ (x) dX6_isWithin_17 hRR (by omega) (by omega) (by omega) ?_
    rw [hrx]
    refine aw_icmp_geZ (tgt := 46) dX6_isWithin_18 (by decide) (by omega) (by omega) (fun hc_18 => ?_) (fun hc_18 => ?_)
    · exact absurd hc_18 (by omega)
    · refine aw_iload_n dX6_isWithin_21 (by rfl) ?_
      refine aw_if_eqZ (tgt := 46) dX6_isWithin_22 (by decide) (by omega) (fun hc_22 => ?_) (fun hc_22 => ?_)
      · obtain ⟨rfl, hb2⟩ := hb.resolve_left (by omega)
        refine aw_iload_n dX6_isWithin_46 (by rfl) ?_
        refine aw_iret dX6_isWithin_47 rfl (by rfl) ?_
        exact ⟨rfl, rfl, rfl, hV, ⟨z, hM, hF⟩, Or.inr ⟨rfl, hb2⟩⟩
      · refine aw_aload_n dX6_isWithin_25 (by rfl) (Or.inr ⟨_, rfl⟩) ?_
        refine aw_iload_n dX6_isWithin_26 (by rfl) ?_
        refine aw_iload dX6_isWithin_27 (by rfl) ?_
        refine aw_callv vX6_218 dX6_isWithin_29 hmo (m_takesTableRow g (d + 2) (u := x) (i := i) hmo hM (hT0.kept (fun a h1 h2 => hV a (by unfold EN; omega))) hx (by omega) (o1 x hx).2.2.2.1) (by rfl) (by rfl) (by omega) (Nat.le_of_ble_eq_true rfl) ?_
        rintro _ V1 _ _ _ ⟨rfl, rfl, rfl, hE1, rfl, hM1⟩ -
        refine q0 ?_
        have hmo1 := (hE1 mo (by unfold EN; omega)).trans hmo
        have hz1 : ∀ q, q < 150 → rowZ z (S.N x) i 5 q = zs q := fun q hq => by rw [rowZ.ne (by omega)]; exact hF q (by unfold InW; omega)
        have hp1 := rcp_of (z' := rowZ z (S.N x) i 5) hst hl5 hsp hNb (by omega) hz1 (fun j hj => by rw [rowZ.at hj]; have := (o1 x hx).2.2.2.1 (5 * i + j) (by omega); unfold ab; omega)
        refine aw_aload_n dX6_isWithin_32 (by rfl) (Or.inr ⟨_, rfl⟩) ?_
        refine aw_sipushZ dX6_isWithin_33 (by decide) ?_
        refine aw_callv vX6_221 dX6_isWithin_36 hmo1 (m_reaches g d hp1 hmo1 hM1 ((hE1 _ (by unfold EN; omega)).trans ((hV _ (by unfold EN; omega)).trans hra)) hl rc_sm) (by rfl) (by rfl) (by omega) (Nat.le_of_ble_eq_true rfl) ?_
        rintro _ V2 _ _ _ ⟨rfl, rfl, rfl, hE2, z2, hM2, hF2, hr2⟩ -
        refine q0 ?_
        have hsb := b5_sp (z' := rowZ z (S.N x) i 5) (R := fun j => rowZ z (S.N x) i 5 (450 + j)) (o1 y hy).2.1 (by omega) hspT hz1 hB0 (fun j h1 h2 => by
          show rowZ z (S.N x) i 5 (450 + j) = 0
          rw [rowZ.at h2]
          exact (o1 x hx).2.2.2.2.2.1 i j (by omega) h2 (Or.inr (Or.inl (by omega))))
        have hrw : Span (TM (S.N y)) (S.r y) (S.c y) (fun j => rowZ z (S.N x) i 5 (450 + j)) ↔ Span (TM (S.N y)) (S.r y) (S.c y) (TM (S.N x) i) := ⟨fun h => h.congr (fun j hj => rowZ.at (by have := (o1 y hy).2.1; omega)), fun h => h.congr (fun j hj => (rowZ.at (by have := (o1 y hy).2.1; omega)).symm)⟩
        have hF3 : Frm zs z2 InW := fun q hq => by
          rw [hF2 q hq, rowZ.ne (by unfold InW at hq; omega)]
          exact hF q hq
        obtain ⟨rfl, hb2⟩ := hb.resolve_right (by omega)
        rcases hr2 with ⟨rfl, hr2⟩ | ⟨rfl, hr2⟩
        · have hin := hrw.mp (hsb.mp ⟨_, hr2⟩)
          refine aw_istore_n dX6_isWithin_39 (by decide) ?_
          refine aw_iincZ dX6_isWithin_40 (by rfl) (by decide) ?_
          refine aw_goto (tgt := 10) dX6_isWithin_43 (by decide) ?_
          rw [show ((i : Int) + 1) = ((i + 1 : Nat) : Int) by omega]
          refine aw_pk [4, 3, 0, 1, 2] (by rfl) ?_
          exact IH (i + 1) (by omega) ((hE2 mo (by unfold EN; omega)).trans hmo1) hM2 (fun a ha => (hE2 a ha).trans ((hE1 a ha).trans (hV a ha))) hF3 (Or.inl ⟨rfl, fun k hk => (Nat.lt_or_eq_of_le (Nat.le_of_lt_succ hk)).elim (fun e => hb2 k e) (fun e => e ▸ hin)⟩)
        · have hnin := fun h => hr2 (hsb.mpr (hrw.mpr h))
          refine aw_istore_n dX6_isWithin_39 (by decide) ?_
          refine aw_iincZ dX6_isWithin_40 (by rfl) (by decide) ?_
          refine aw_goto (tgt := 10) dX6_isWithin_43 (by decide) ?_
          rw [show ((i : Int) + 1) = ((i + 1 : Nat) : Int) by omega]
          refine aw_pk [4, 3, 0, 1, 2] (by rfl) ?_
          exact IH (i + 1) (by omega) ((hE2 mo (by unfold EN; omega)).trans hmo1) hM2 (fun a ha => (hE2 a ha).trans ((hE1 a ha).trans (hV a ha))) hF3 (Or.inr ⟨rfl, fun w => hnin (w i (by omega))⟩)
theorem m_isWithin (g : GX) (d : Nat) {V : AH} {mo sz x y : Nat} {zs : Nat → Int} {S : TSt} {A : ASt} (hR : RX g mo V zs S A) (hx : x < 12) (hy : y < 12) (hcc : S.c x = S.c y) : AMet g mX6_isWithin (d + 9) [.ref mo, .int (iZ x), .int (iZ y)] V sz (VX V sz (EC mo) (fun q V' => (∃ (r κ : Nat) (l lk : Nat → Nat) (z1 z' : Nat → Int), CSt g mo V' r κ (arZ A) (acZ A) l lk z' ∧ Stair (CMx r z1) (r + κ) 15 (lcx r l lk) ∧ SpEq (GTx (TM (S.N y))) (S.r y) (CMx r z1) (r + κ) 15 ∧ r + κ ≤ S.r y ∧ Frm z1 z' InW ∧ Frm zs z1 InC) ∧ ((some (.int (iZ 1)) = q ∧ WinP S x y) ∨ (some (.int (iZ 0)) = q ∧ ¬ WinP S x y)))) := by
  obtain ⟨⟨rk, kn, hmo⟩, -, -, -, -, -, hT, -, -, o1, -⟩ := id hR
  have q5 := (o1 y hy).1
  have hNb : ∀ i j, i < S.r y → j < 5 → ab (TM (S.N y) i j) ≤ 1000 := fun a b ha hb => by
    have := (o1 y hy).2.2.2.1 (5 * a + b) (by omega)
    show ab (S.N y (5 * a + b)) ≤ 1000
    unfold ab; omega
  refine AMet.of rfl rfl (Nat.le_of_ble_eq_true rfl) ?_
  show AW g mX6_isWithin (d + 9) 0 [(0, .ref mo), (1, .int (iZ x)), (2, .int (iZ y))] [] V sz _
  refine aw_aload_n dX6_isWithin_0 (by rfl) (Or.inr ⟨_, rfl⟩) ?_
  refine aw_iload_n dX6_isWithin_1 (by rfl) ?_
  refine aw_callv vX6_165 dX6_isWithin_2 hmo (m_stairOf g d (t := y) hR hy) (by rfl) (by rfl) (by omega) (Nat.le_of_ble_eq_true rfl) ?_
  rintro _ V1 _ _ _ ⟨rfl, rfl, rfl, hE1, rfl, r1, κ1, l1, lk1, z1, ⟨RW1, RK1, hmo1, hra1, hrk1, hl1, hlk1, hM1, hl51⟩, hst1, hsp1, hlc1, hln1, hst2, hsp2, hn1, hF1⟩ -
  refine q0 ?_
  obtain ⟨s1, s2⟩ := stair_of hst1 hsp1 (cp_split hlc1)
  have hB0 : ∀ i j, i < r1 → S.c y ≤ j → j < 5 → z1 (15 * i + j) = 0 := fun i j hi h1 h2 => by
    obtain ⟨cf, hcf⟩ := (hsp2 (CMx r1 z1 i)).mpr (Span.row (by omega))
    have h9 := hcf j (by omega)
    rw [cm_s hi] at h9
    rw [h9]
    refine Sg_zero (fun k hk => ?_)
    unfold GTx
    rw [if_pos h2]
    show cf k * S.N y (5 * k + j) = 0
    rw [(o1 y hy).2.2.2.2.2.1 k j (by omega) h2 (Or.inr (Or.inl h1)), Int.mul_zero]
  refine aw_iconstZ dX6_isWithin_5 ?_
  refine aw_istore_n dX6_isWithin_6 (by decide) ?_
  refine aw_iconstZ dX6_isWithin_7 ?_
  refine aw_istore dX6_isWithin_8 (by decide) ?_
  refine aw_pk [4, 3, 0, 1, 2] (by rfl) ?_
  refine (iw_loop (d + 5) (V0 := V1) (lk := lk1) o1 hx hy hcc (hT.kept (fun a h1 h2 => hE1 a (by unfold EC; omega))) hra1 hl1 hst2 hl51 hsp2 hNb (by omega) s2 hB0 (S.r x) 0 (by omega) hmo1 hM1 (fun _ _ => rfl) (fun _ _ => rfl) (Or.inl ⟨rfl, fun k hk => absurd hk (by omega)⟩)).mono ?_
  rintro q V' sz' dc ds ⟨rfl, rfl, rfl, hE2, ⟨z2, hM2, hF2⟩, hres⟩
  exact ⟨rfl, rfl, rfl, fun a ha => (hE2 a (fun z => ha (by unfold EN at z; unfold EC; omega))).trans (hE1 a ha), ⟨r1, κ1, l1, lk1, z1, z2, ⟨RW1, RK1, (hE2 _ (by unfold EN; omega)).trans hmo1, (hE2 _ (by unfold EN; omega)).trans hra1, (hE2 _ (by unfold EN; omega)).trans hrk1, hl1, hlk1, hM2, hl51⟩, hst2, hsp2, hn1, hF2, hF1⟩, hres⟩

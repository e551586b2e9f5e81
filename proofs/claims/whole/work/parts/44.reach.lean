/-! ===== Grid.reachOf ===== -/
abbrev TM (N : Nat → Int) : Mat := fun i j => N (5 * i + j)
theorem sm_tab : ∀ w : Fin 11, ∀ h : Fin 11, ((2 * ((Cs (KB w 1000) 1000 h + 1) * 2 ^ ((h : Nat) + 1) * KB w 1000)).natAbs : Int) < 2147483648 ^ 150 := by decide +kernel
theorem sm_t {w h : Nat} (hw : w < 11) (hh : h < 11) : Sm (2 * ((Cs (KB w 1000) 1000 h + 1) * 2 ^ (h + 1) * KB w 1000)) := sm_tab ⟨w, hw⟩ ⟨h, hh⟩
/-- one row more behind the rows of a table -/
theorem SpEq.push {A B : Mat} {i h w : Nat} (hs : SpEq A i B h w) {A' B' : Mat} (h1 : ∀ k, k < i → ∀ j, j < w → A' k j = A k j) (h2 : ∀ k, k < h → ∀ j, j < w → B' k j = B k j) (h3 : ∀ j, j < w → A' i j = B' h j) : SpEq A' (i + 1) B' (h + 1) w := by
  refine SpEq.of (fun k hk => ?_) (fun k hk => ?_)
  · by_cases hq : k = i
    · subst hq; exact (Span.row (by omega)).congr (fun j hj => (h3 j hj).symm)
    · obtain ⟨c, hc⟩ := (hs (A k)).mp (Span.row (by omega))
      refine Span.congr (x := A k) ?_ (fun j hj => (h1 k (by omega) j hj).symm)
      exact span_sub (A' := B) (h' := h) (fun m hm => (Span.row (i := m) (by omega)).congr (fun j hj => h2 m hm j hj)) ⟨c, hc⟩
  · by_cases hq : k = h
    · subst hq; exact (Span.row (by omega)).congr (fun j hj => h3 j hj)
    · obtain ⟨c, hc⟩ := (hs (B k)).mpr (Span.row (by omega))
      refine Span.congr (x := B k) ?_ (fun j hj => (h2 k (by omega) j hj).symm)
      exact span_sub (A' := A) (h' := i) (fun m hm => (Span.row (i := m) (by omega)).congr (fun j hj => h1 m hm j hj)) ⟨c, hc⟩
theorem LB.mono0 {A : Mat} {n w : Nat} {b : Int} (hb : 1 ≤ b) (hA : ∀ i j, i < n → j < w → ab (A i j) ≤ b) {m : Nat} (hm : m ≤ n) : LB A m w (KB w b) := lb_of hb (fun i j hi hj => hA i j (by omega) hj)

abbrev mX1_reachOf : MI := (yX1_reachOf, cX1_reachOf, 3, none, noX)
theorem dX1_reachOf_0 : decode cX1_reachOf 0 = .ok (.aload_n 0, 1) := by decide +kernel
theorem dX1_reachOf_1 : decode cX1_reachOf 1 = .ok (.aload_n 1, 1) := by decide +kernel
theorem dX1_reachOf_2 : decode cX1_reachOf 2 = .ok (.getfield 48, 3) := by decide +kernel
theorem dX1_reachOf_5 : decode cX1_reachOf 5 = .ok (.invokevirtual 53, 3) := by decide +kernel
theorem dX1_reachOf_8 : decode cX1_reachOf 8 = .ok (.iconst 0, 1) := by decide +kernel
theorem dX1_reachOf_9 : decode cX1_reachOf 9 = .ok (.istore_n 2, 1) := by decide +kernel
theorem dX1_reachOf_10 : decode cX1_reachOf 10 = .ok (.iload_n 2, 1) := by decide +kernel
theorem dX1_reachOf_11 : decode cX1_reachOf 11 = .ok (.aload_n 1, 1) := by decide +kernel
theorem dX1_reachOf_12 : decode cX1_reachOf 12 = .ok (.getfield 56, 3) := by decide +kernel
theorem dX1_reachOf_15 : decode cX1_reachOf 15 = .ok (.if_icmp .ge 28, 3) := by decide +kernel
theorem dX1_reachOf_18 : decode cX1_reachOf 18 = .ok (.aload_n 0, 1) := by decide +kernel
theorem dX1_reachOf_19 : decode cX1_reachOf 19 = .ok (.getfield 41, 3) := by decide +kernel
theorem dX1_reachOf_22 : decode cX1_reachOf 22 = .ok (.aload_n 0, 1) := by decide +kernel
theorem dX1_reachOf_23 : decode cX1_reachOf 23 = .ok (.getfield 28, 3) := by decide +kernel
theorem dX1_reachOf_26 : decode cX1_reachOf 26 = .ok (.aaload, 1) := by decide +kernel
theorem dX1_reachOf_27 : decode cX1_reachOf 27 = .ok (.aload_n 1, 1) := by decide +kernel
theorem dX1_reachOf_28 : decode cX1_reachOf 28 = .ok (.iload_n 2, 1) := by decide +kernel
theorem dX1_reachOf_29 : decode cX1_reachOf 29 = .ok (.iconst 1, 1) := by decide +kernel
theorem dX1_reachOf_30 : decode cX1_reachOf 30 = .ok (.invokevirtual 58, 3) := by decide +kernel
theorem dX1_reachOf_33 : decode cX1_reachOf 33 = .ok (.aload_n 0, 1) := by decide +kernel
theorem dX1_reachOf_34 : decode cX1_reachOf 34 = .ok (.invokevirtual 62, 3) := by decide +kernel
theorem dX1_reachOf_37 : decode cX1_reachOf 37 = .ok (.iinc 2 1, 3) := by decide +kernel
theorem dX1_reachOf_40 : decode cX1_reachOf 40 = .ok (.goto (-30), 3) := by decide +kernel
theorem dX1_reachOf_43 : decode cX1_reachOf 43 = .ok (.return_, 1) := by decide +kernel
theorem Stair.cong {A A' : Mat} {h w : Nat} {l : Nat → Nat} (s : Stair A h w l) (p : ∀ i, i < h → ∀ j, j < w → A' i j = A i j) : Stair A' h w l := by
  have hl : ∀ i, i < h → l i < w := fun i hi => (s.1.1 i hi).1
  exact ⟨s.1.cong p, fun i hi => by rw [p i hi _ (hl i hi)]; exact s.2.1 i hi, fun i k h1 h2 => by rw [p i (by omega) _ (hl k h2), p k h2 _ (hl k h2)]; exact s.2.2 i k h1 h2⟩
set_option maxRecDepth 20000 in
theorem ro_loop (g : GX) (d : Nat) {ws : List Nat} {SA : Nat → Prop} {D : DT} {G : GG} {w rn tb na ta : Nat} {N H : Nat → Int} {V0 : AH} {Z0 : Nat → Int} (hS : GSt ws SA D G) (hT0 : TbV g V0 tb na ta rn w N H) (hNr : ∀ k, k < 25 → -1000 ≤ N k ∧ N k ≤ 1000) (hrn : rn ≤ 5 ∧ w ≤ 5) (hwr : w < G.mr) (hwm : w ≤ G.mc) (hST : SA tb ∧ SA na ∧ SA ta) (hTE : ¬ EG G tb ∧ ¬ EG G na ∧ ¬ EG G ta) : ∀ (x i : Nat), i + x = rn → ∀ {V : AH} {sz : Nat} {Z : Nat → Int} {P L : Nat → Nat} {h : Nat} {ld : Nat → Int} {l ρ : Nat → Nat}, WG g ws SA V sz Z P L → DKV ws SA V Z D → (∀ a, SA a → ¬ EG G a → V a = V0 a) → GD g V D.dk G h w ld ρ → (∀ i, i < h → ld i = (l i : Int)) → Stair (AM G Z ρ) h w l → SpEq (TM N) i (AM G Z ρ) h w → NF G Z0 Z → AW g mX1_reachOf (d + 7) 10 [(2, .int (iZ i)), (0, .ref G.gd), (1, .ref tb)] [] V sz (WE g ws SA (EG G) V sz L (fun r V' Z' => none = r ∧ ∃ (h' : Nat) (ld' : Nat → Int) (l' : Nat → Nat) (ρ' : Nat → Nat), GD g V' D.dk G h' w ld' ρ' ∧ (∀ i, i < h' → ld' i = (l' i : Int)) ∧ Stair (AM G Z' ρ') h' w l' ∧ SpEq (TM N) rn (AM G Z' ρ') h' w ∧ NF G Z0 Z'))
  | 0, i, hx, V, sz, Z, P, L, h, ld, l, ρ, hw0, hD, hV, hG, hld, hst, hsp, hNF => by
    have hT := hT0.kept (hV _ hST.1 hTE.1) (hV _ hST.2.1 hTE.2.1) (hV _ hST.2.2 hTE.2.2)
    obtain ⟨ht1, ht2, ht3, -⟩ := id hT
    refine aw_iload_n dX1_reachOf_10 (by rfl) ?_
    refine aw_aload_n dX1_reachOf_11 (by rfl) (Or.inr ⟨_, rfl⟩) ?_
    refine aw_get fX1_56 dX1_reachOf_12 (by assumption) (by rfl) ?_
    refine aw_icmp_geZ (tgt := 43) dX1_reachOf_15 (by decide) (by omega) (by omega) (fun hc_15 => ?_) (fun hc_15 => ?_)
    · refine aw_ret dX1_reachOf_43 rfl ?_
      obtain rfl : i = rn := by omega
      exact WE.ret hw0 ⟨rfl, h, ld, l, ρ, hG, hld, hst, hsp, hNF⟩
    · exact absurd hc_15 (by omega)
  | x + 1, i, hx, V, sz, Z, P, L, h, ld, l, ρ, hw0, hD, hV, hG, hld, hst, hsp, hNF => by
    have IH := fun i hi => @ro_loop g d ws SA D G w rn tb na ta N H V0 Z0 hS hT0 hNr hrn hwr hwm hST hTE x i hi
    have hT := hT0.kept (hV _ hST.1 hTE.1) (hV _ hST.2.1 hTE.2.1) (hV _ hST.2.2 hTE.2.2)
    obtain ⟨ht1, ht2, ht3, -⟩ := id hT
    obtain ⟨-, -, -, hSr, hcell, hginj, hmr, hmc⟩ := id hS
    have hcin : ∀ ro, G.RS ro → ∀ i j, i < G.mc → j < G.mc → i ≠ j → G.ga ro i ≠ G.ga ro j := fun ro hr i j hi hj hne q => hne (hginj ro ro i j hr hr hi hj q).2
    obtain ⟨hgd, hra, hla, hrow, hRS, hinj⟩ := id hG
    have hhw := hst.1.le_w
    have hRh := hRS h (by omega)
    have hrh := hrow _ hRh
    have hDE : ¬ EG G D.dk := fun q => by rcases q with q | q | q; exact hS.2.1.2.2.2.1 q; exact hS.2.1.2.2.2.2.1 q; exact hS.2.1.2.2.2.2.2 q
    have hTb : ∀ k j, k < i → j < w → ab (TM N k j) ≤ 1000 := fun k j hk hj => by have := hNr (5 * k + j) (by omega); show ab (N _) ≤ _; unfold ab; omega
    have hTb1 : ∀ k j, k < i + 1 → j < w → ab (TM N k j) ≤ 1000 := fun k j hk hj => by have := hNr (5 * k + j) (by omega); show ab (N _) ≤ _; unfold ab; omega
    refine aw_iload_n dX1_reachOf_10 (by rfl) ?_
    refine aw_aload_n dX1_reachOf_11 (by rfl) (Or.inr ⟨_, rfl⟩) ?_
    refine aw_get fX1_56 dX1_reachOf_12 (by assumption) (by rfl) ?_
    refine aw_icmp_geZ (tgt := 43) dX1_reachOf_15 (by decide) (by omega) (by omega) (fun hc_15 => ?_) (fun hc_15 => ?_)
    · exact absurd hc_15 (by omega)
    · obtain ⟨hrha, hrhb, -⟩ := id hrh
      refine aw_aload_n dX1_reachOf_18 (by rfl) (Or.inr ⟨_, rfl⟩) ?_
      refine aw_get fX1_41 dX1_reachOf_19 (by assumption) (by rfl) ?_
      refine aw_aload_n dX1_reachOf_22 (by rfl) (Or.inr ⟨_, rfl⟩) ?_
      refine aw_get fX1_28 dX1_reachOf_23 (by assumption) (by rfl) ?_
      refine aw_aaldZ (t0 := 4) (h) (by rfl) dX1_reachOf_26 (by assumption) (by omega) (by omega) (by omega) ?_
      refine aw_aload_n dX1_reachOf_27 (by rfl) (Or.inr ⟨_, rfl⟩) ?_
      refine aw_iload_n dX1_reachOf_28 (by rfl) ?_
      refine aw_iconstZ dX1_reachOf_29 ?_
      refine aw_callv vX1_58 dX1_reachOf_30 hrh.1 (w_read (i := i) (f := 1) d hw0 hrh hT.1 hT.2.1 hNr (Or.inl rfl) (by omega) (fun j hj => (hcell _ hRh j hj).1.1) (hcin _ hRh) (hSr _ hRh).1 (hSr _ hRh).2.1 hST.1 hST.2.1 (by omega)) (by rfl) (by rfl) (by omega) (Nat.le_of_ble_eq_true rfl) ?_
      rintro _ V1 sz1 mc1 ms1 ⟨Z1, P1', L1, ⟨rfl, hru⟩, hs1⟩ -
      refine WE.stp (hs1.weak (fun _ q => q.elim)) ?_
      have hkv1 : ∀ a, SA a → V1 a = V a := fun a ha => hs1.2.2.1 a ha (fun q => q)
      have hG1 := hG.kept hS hkv1
      obtain ⟨hgd1, -⟩ := id hG1
      have hot : ∀ a, a < G.mr → a ≠ h → ∀ j, j < G.mc → Z1 (G.ga (ρ a) j) = Z (G.ga (ρ a) j) := fun a ha hai j hj => hru.2 _ (fun q => q) (fun b _ hb q => hinj a h ha (by omega) hai (hginj _ _ _ _ (hRS a ha) hRh hj (by omega) q).1)
      have hrw : ∀ j, j < w → Z1 (G.ga (ρ h) j) = N (5 * i + j) := fun j hj => (hru.1 j (Nat.zero_le _) hj).trans (Int.one_mul _)
      have hNF1 : NF G Z Z1 := fun x h1 h2 h3 => hru.2 x (fun q => q) (fun b _ hb => h3 _ hRh b (by omega))
      have hD1 := hS.dkv hD (hkv1 _ hD.1) hNF1
      have hst1 : Stair (AM G Z1 ρ) h w l := hst.cong (fun a ha j hj => hot a (by omega) (by omega) j (by omega))
      have hsp1 : SpEq (TM N) i (AM G Z1 ρ) h w := hsp.tr (SpEq.cong (fun a ha j hj => (hot a (by omega) (by omega) j (by omega)).symm))
      have hsp2 : SpEq (TM N) (i + 1) (AM G Z1 ρ) (h + 1) w := hsp1.push (fun _ _ _ _ => rfl) (fun _ _ _ _ => rfl) (fun j hj => (hrw j hj).symm)
      refine aw_aload_n dX1_reachOf_33 (by rfl) (Or.inr ⟨_, rfl⟩) ?_
      refine aw_callv vX1_62 dX1_reachOf_34 hgd1 (w_takeIn g d hS (by omega) hwr hwm hst1 ((LB.mono0 (n := i) (by omega) hTb (Nat.le_refl _)).eq hsp1) ((LB.mono0 (n := i + 1) (by omega) hTb1 (Nat.le_refl _)).eq hsp2) (KB.one (by omega)) (c := 1000) (by omega) (fun j hj => by show ab (Z1 _) ≤ _; rw [hrw j hj]; have := hNr (5 * i + j) (by omega); unfold ab; omega) (sm_t (by omega) (by omega)) hld hs1.1 hD1 hG1) (by rfl) (by rfl) (by omega) (Nat.le_of_ble_eq_true rfl) ?_
      rintro _ V2 sz2 mc2 ms2 ⟨Z2, P2', L2, ⟨rfl, h2, ld2, l2, ρ2, hG2, hld2, hst2, hsp3, hNF2, hh2⟩, hs2⟩ -
      refine WE.stp hs2 ?_
      have hD2 := hS.dkv hD1 (hs2.2.2.1 _ hD.1 hDE) hNF2
      refine aw_iincZ dX1_reachOf_37 (by rfl) (by decide) ?_
      refine aw_goto (tgt := 10) dX1_reachOf_40 (by decide) ?_
      rw [show ((i : Int) + 1) = ((i + 1 : Nat) : Int) by omega]
      refine aw_pk [2, 0, 1] (by rfl) ?_
      exact IH (i + 1) (by omega) hs2.1 hD2 (fun a ha hE => (hs2.2.2.1 a ha hE).trans ((hkv1 a ha).trans (hV a ha hE))) hG2 hld2 hst2 (hsp2.tr hsp3) (hNF.tr (hNF1.tr hNF2))
theorem Stair.nil {A : Mat} {w : Nat} {l : Nat → Nat} : Stair A 0 w l := ⟨⟨fun i hi => absurd hi (by omega), fun i k _ hk => absurd hk (by omega)⟩, fun i hi => absurd hi (by omega), fun i k _ hk => absurd hk (by omega)⟩
theorem SpEq.nil {A B : Mat} {w : Nat} : SpEq A 0 B 0 w := SpEq.of (fun i hi => absurd hi (by omega)) (fun i hi => absurd hi (by omega))
theorem w_reachOf (g : GX) (d : Nat) {ws : List Nat} {SA : Nat → Prop} {D : DT} {G : GG} {w rn tb na ta : Nat} {N H : Nat → Int} {Z0 : Nat → Int} (hS : GSt ws SA D G) (hNr : ∀ k, k < 25 → -1000 ≤ N k ∧ N k ≤ 1000) (hrn : rn ≤ 5 ∧ w ≤ 5) (hwr : w < G.mr) (hwm : w ≤ G.mc) (hST : SA tb ∧ SA na ∧ SA ta) (hTE : ¬ EG G tb ∧ ¬ EG G na ∧ ¬ EG G ta) {V : AH} {sz : Nat} {P L : Nat → Nat} {h w0 : Nat} {ld : Nat → Int} {ρ : Nat → Nat} (hw0 : WG g ws SA V sz Z0 P L) (hD : DKV ws SA V Z0 D) (hT0 : TbV g V tb na ta rn w N H) (hG : GD g V D.dk G h w0 ld ρ) : AMet g mX1_reachOf (d + 7) [.ref G.gd, .ref tb] V sz (WE g ws SA (EG G) V sz L (fun r V' Z' => none = r ∧ ∃ (h' : Nat) (ld' : Nat → Int) (l' : Nat → Nat) (ρ' : Nat → Nat), GD g V' D.dk G h' w ld' ρ' ∧ (∀ i, i < h' → ld' i = (l' i : Int)) ∧ Stair (AM G Z' ρ') h' w l' ∧ SpEq (TM N) rn (AM G Z' ρ') h' w ∧ NF G Z0 Z')) := by
  obtain ⟨ht1, ht2, ht3, -⟩ := id hT0
  have hgd := hG.1
  refine AMet.of rfl rfl (Nat.le_of_ble_eq_true rfl) ?_
  show AW g mX1_reachOf (d + 7) 0 [(0, .ref G.gd), (1, .ref tb)] [] V sz _
  refine aw_aload_n dX1_reachOf_0 (by rfl) (Or.inr ⟨_, rfl⟩) ?_
  refine aw_aload_n dX1_reachOf_1 (by rfl) (Or.inr ⟨_, rfl⟩) ?_
  refine aw_get fX1_48 dX1_reachOf_2 (by assumption) (by rfl) ?_
  refine aw_callv vX1_53 dX1_reachOf_5 hgd (t_gbegin g d (w' := w) hG) (by rfl) (by rfl) (by omega) (Nat.le_of_ble_eq_true rfl) ?_
  rintro _ _ _ _ _ ⟨rfl, rfl, rfl, rfl, rfl⟩ -
  refine q0 ?_
  refine WE.stp0 (WSE.sto hw0 hS.1.1 (Or.inl rfl)) ?_
  have hw1 := hw0.sto (e := grO G.ra G.la D.dk G.fa G.pr (0 : Nat) w) hS.1.1
  refine aw_iconstZ dX1_reachOf_8 ?_
  refine aw_istore_n dX1_reachOf_9 (by decide) ?_
  refine aw_pk [2, 0, 1] (by rfl) ?_
  exact ro_loop g d hS (hT0.kept (AHu_ne (fun q => hTE.1 (Or.inl q))) (AHu_ne (fun q => hTE.2.1 (Or.inl q))) (AHu_ne (fun q => hTE.2.2 (Or.inl q)))) hNr hrn hwr hwm hST hTE rn 0 (by omega) hw1 (hD.kept (AHu_ne hS.2.1.2.2.2.1) rfl rfl rfl) (fun _ _ _ => rfl) (hG.begin hS 0 w) (l := fun _ => 0) (fun i hi => absurd hi (by omega)) Stair.nil SpEq.nil NF.rf

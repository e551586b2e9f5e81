/-! ===== Grid.reachWithMultiples ===== -/
/-- a table, and behind it the unit table -/
abbrev TU (N : Nat → Int) (w : Nat) : Mat := fun i j => if j < w then N (5 * i + j) else if j - w = i then 1 else 0
theorem RU.cong {Z Z' : Nat → Int} {c : Nat → Nat} {fr w : Nat} {G G' : Nat → Int} {sc : Nat → Prop} (h : RU Z Z' c fr w G sc) (e : ∀ j, fr ≤ j → j < w → G j = G' j) : RU Z Z' c fr w G' sc := ⟨fun j h1 h2 => (h.1 j h1 h2).trans (e j h1 h2), h.2⟩
abbrev mX1_reachWithMultiples : MI := (yX1_reachWithMultiples, cX1_reachWithMultiples, 5, none, noX)
theorem dX1_reachWithMultiples_0 : decode cX1_reachWithMultiples 0 = .ok (.aload_n 0, 1) := by decide +kernel
theorem dX1_reachWithMultiples_1 : decode cX1_reachWithMultiples 1 = .ok (.aload_n 1, 1) := by decide +kernel
theorem dX1_reachWithMultiples_2 : decode cX1_reachWithMultiples 2 = .ok (.getfield 48, 3) := by decide +kernel
theorem dX1_reachWithMultiples_5 : decode cX1_reachWithMultiples 5 = .ok (.aload_n 1, 1) := by decide +kernel
theorem dX1_reachWithMultiples_6 : decode cX1_reachWithMultiples 6 = .ok (.getfield 56, 3) := by decide +kernel
theorem dX1_reachWithMultiples_9 : decode cX1_reachWithMultiples 9 = .ok (.iadd, 1) := by decide +kernel
theorem dX1_reachWithMultiples_10 : decode cX1_reachWithMultiples 10 = .ok (.invokevirtual 53, 3) := by decide +kernel
theorem dX1_reachWithMultiples_13 : decode cX1_reachWithMultiples 13 = .ok (.iconst 0, 1) := by decide +kernel
theorem dX1_reachWithMultiples_14 : decode cX1_reachWithMultiples 14 = .ok (.istore_n 2, 1) := by decide +kernel
theorem dX1_reachWithMultiples_15 : decode cX1_reachWithMultiples 15 = .ok (.iload_n 2, 1) := by decide +kernel
theorem dX1_reachWithMultiples_16 : decode cX1_reachWithMultiples 16 = .ok (.aload_n 1, 1) := by decide +kernel
theorem dX1_reachWithMultiples_17 : decode cX1_reachWithMultiples 17 = .ok (.getfield 56, 3) := by decide +kernel
theorem dX1_reachWithMultiples_20 : decode cX1_reachWithMultiples 20 = .ok (.if_icmp .ge 74, 3) := by decide +kernel
theorem dX1_reachWithMultiples_23 : decode cX1_reachWithMultiples 23 = .ok (.aload_n 0, 1) := by decide +kernel
theorem dX1_reachWithMultiples_24 : decode cX1_reachWithMultiples 24 = .ok (.getfield 41, 3) := by decide +kernel
theorem dX1_reachWithMultiples_27 : decode cX1_reachWithMultiples 27 = .ok (.aload_n 0, 1) := by decide +kernel
theorem dX1_reachWithMultiples_28 : decode cX1_reachWithMultiples 28 = .ok (.getfield 28, 3) := by decide +kernel
theorem dX1_reachWithMultiples_31 : decode cX1_reachWithMultiples 31 = .ok (.aaload, 1) := by decide +kernel
theorem dX1_reachWithMultiples_32 : decode cX1_reachWithMultiples 32 = .ok (.astore_n 3, 1) := by decide +kernel
theorem dX1_reachWithMultiples_33 : decode cX1_reachWithMultiples 33 = .ok (.aload_n 3, 1) := by decide +kernel
theorem dX1_reachWithMultiples_34 : decode cX1_reachWithMultiples 34 = .ok (.aload_n 1, 1) := by decide +kernel
theorem dX1_reachWithMultiples_35 : decode cX1_reachWithMultiples 35 = .ok (.iload_n 2, 1) := by decide +kernel
theorem dX1_reachWithMultiples_36 : decode cX1_reachWithMultiples 36 = .ok (.iconst 1, 1) := by decide +kernel
theorem dX1_reachWithMultiples_37 : decode cX1_reachWithMultiples 37 = .ok (.invokevirtual 58, 3) := by decide +kernel
theorem dX1_reachWithMultiples_40 : decode cX1_reachWithMultiples 40 = .ok (.iconst 0, 1) := by decide +kernel
theorem dX1_reachWithMultiples_41 : decode cX1_reachWithMultiples 41 = .ok (.istore 4, 2) := by decide +kernel
theorem dX1_reachWithMultiples_43 : decode cX1_reachWithMultiples 43 = .ok (.iload 4, 2) := by decide +kernel
theorem dX1_reachWithMultiples_45 : decode cX1_reachWithMultiples 45 = .ok (.aload_n 1, 1) := by decide +kernel
theorem dX1_reachWithMultiples_46 : decode cX1_reachWithMultiples 46 = .ok (.getfield 56, 3) := by decide +kernel
theorem dX1_reachWithMultiples_49 : decode cX1_reachWithMultiples 49 = .ok (.if_icmp .ge 35, 3) := by decide +kernel
theorem dX1_reachWithMultiples_52 : decode cX1_reachWithMultiples 52 = .ok (.aload_n 3, 1) := by decide +kernel
theorem dX1_reachWithMultiples_53 : decode cX1_reachWithMultiples 53 = .ok (.getfield 65, 3) := by decide +kernel
theorem dX1_reachWithMultiples_56 : decode cX1_reachWithMultiples 56 = .ok (.aload_n 1, 1) := by decide +kernel
theorem dX1_reachWithMultiples_57 : decode cX1_reachWithMultiples 57 = .ok (.getfield 48, 3) := by decide +kernel
theorem dX1_reachWithMultiples_60 : decode cX1_reachWithMultiples 60 = .ok (.iload 4, 2) := by decide +kernel
theorem dX1_reachWithMultiples_62 : decode cX1_reachWithMultiples 62 = .ok (.iadd, 1) := by decide +kernel
theorem dX1_reachWithMultiples_63 : decode cX1_reachWithMultiples 63 = .ok (.aaload, 1) := by decide +kernel
theorem dX1_reachWithMultiples_64 : decode cX1_reachWithMultiples 64 = .ok (.iload_n 2, 1) := by decide +kernel
theorem dX1_reachWithMultiples_65 : decode cX1_reachWithMultiples 65 = .ok (.iload 4, 2) := by decide +kernel
theorem dX1_reachWithMultiples_67 : decode cX1_reachWithMultiples 67 = .ok (.if_icmp .ne 7, 3) := by decide +kernel
theorem dX1_reachWithMultiples_70 : decode cX1_reachWithMultiples 70 = .ok (.lconst 1, 1) := by decide +kernel
theorem dX1_reachWithMultiples_71 : decode cX1_reachWithMultiples 71 = .ok (.goto 4, 3) := by decide +kernel
theorem dX1_reachWithMultiples_74 : decode cX1_reachWithMultiples 74 = .ok (.lconst 0, 1) := by decide +kernel
theorem dX1_reachWithMultiples_75 : decode cX1_reachWithMultiples 75 = .ok (.invokevirtual 69, 3) := by decide +kernel
theorem dX1_reachWithMultiples_78 : decode cX1_reachWithMultiples 78 = .ok (.iinc 4 1, 3) := by decide +kernel
theorem dX1_reachWithMultiples_81 : decode cX1_reachWithMultiples 81 = .ok (.goto (-38), 3) := by decide +kernel
theorem dX1_reachWithMultiples_84 : decode cX1_reachWithMultiples 84 = .ok (.aload_n 0, 1) := by decide +kernel
theorem dX1_reachWithMultiples_85 : decode cX1_reachWithMultiples 85 = .ok (.invokevirtual 62, 3) := by decide +kernel
theorem dX1_reachWithMultiples_88 : decode cX1_reachWithMultiples 88 = .ok (.iinc 2 1, 3) := by decide +kernel
theorem dX1_reachWithMultiples_91 : decode cX1_reachWithMultiples 91 = .ok (.goto (-76), 3) := by decide +kernel
theorem dX1_reachWithMultiples_94 : decode cX1_reachWithMultiples 94 = .ok (.return_, 1) := by decide +kernel
theorem rm_in (g : GX) (d : Nat) {ws : List Nat} {SA : Nat → Prop} {D : DT} {G : GG} {w rn tb na ta i h ww : Nat} {N H : Nat → Int} {V1 : AH} {Z1 : Nat → Int} {ld : Nat → Int} {ρ : Nat → Nat} {R : Option Value → AH → (Nat → Int) → Prop} (hS : GSt ws SA D G) (hT0 : TbV g V1 tb na ta rn w N H) (hrn : rn ≤ 5 ∧ w ≤ 5) (hi : i < rn) (hwm : w + rn ≤ G.mc) (hST : SA tb ∧ SA na ∧ SA ta) (hG1 : GD g V1 D.dk G h ww ld ρ) (hhm : h < G.mr)
    (hKK : ∀ {V : AH} {sz : Nat} {Z : Nat → Int} {P L : Nat → Nat}, WG g ws SA V sz Z P L → (∀ a, SA a → V a = V1 a) → RU Z1 Z (G.ga (ρ h)) 0 (w + rn) (TU N w i) E0 → AW g mX1_reachWithMultiples (d + 7) 84 [(2, .int (iZ i)), (0, .ref G.gd), (1, .ref tb)] [] V sz (WE g ws SA (EG G) V sz L R)) : ∀ (x j : Nat), j + x = rn → ∀ {V : AH} {sz : Nat} {Z : Nat → Int} {P L : Nat → Nat}, WG g ws SA V sz Z P L → (∀ a, SA a → V a = V1 a) → RU Z1 Z (G.ga (ρ h)) 0 (w + j) (TU N w i) E0 → AW g mX1_reachWithMultiples (d + 7) 43 [(4, .int (iZ j)), (3, .ref (ρ h)), (2, .int (iZ i)), (0, .ref G.gd), (1, .ref tb)] [] V sz (WE g ws SA (EG G) V sz L R)
  | 0, j, hx, V, sz, Z, P, L, hw0, hV1, hru => by
    have hV : ∀ a, SA a → ¬ EG G a → V a = V1 a := fun a ha _ => hV1 a ha
    have hT := hT0.kept (hV1 _ hST.1) (hV1 _ hST.2.1) (hV1 _ hST.2.2)
    obtain ⟨ht1, ht2, ht3, -⟩ := id hT
    refine aw_iload dX1_reachWithMultiples_43 (by rfl) ?_
    refine aw_aload_n dX1_reachWithMultiples_45 (by rfl) (Or.inr ⟨_, rfl⟩) ?_
    refine aw_get fX1_56 dX1_reachWithMultiples_46 (by assumption) (by rfl) ?_
    refine aw_icmp_geZ (tgt := 84) dX1_reachWithMultiples_49 (by decide) (by omega) (by omega) (fun hc_49 => ?_) (fun hc_49 => ?_)
    · obtain rfl : j = rn := by omega
      exact aw_pk [2, 0, 1] (by rfl) (hKK hw0 hV1 hru)
    · exact absurd hc_49 (by omega)
  | x + 1, j, hx, V, sz, Z, P, L, hw0, hV1, hru => by
    have IH := fun j hj => @rm_in g d ws SA D G w rn tb na ta i h ww N H V1 Z1 ld ρ R hS hT0 hrn hi hwm hST hG1 hhm hKK x j hj
    clear hKK
    have hT := hT0.kept (hV1 _ hST.1) (hV1 _ hST.2.1) (hV1 _ hST.2.2)
    obtain ⟨ht1, ht2, ht3, -⟩ := id hT
    have hG := hG1.kept hS hV1
    obtain ⟨-, -, -, hSr, hcell, hginj, hmr, hmc⟩ := id hS
    have hcin : ∀ ro, G.RS ro → ∀ i j, i < G.mc → j < G.mc → i ≠ j → G.ga ro i ≠ G.ga ro j := fun ro hr i j hi hj hne q => hne (hginj ro ro i j hr hr hi hj q).2
    obtain ⟨hgd, hra, hla, hrow, hRS, hinj⟩ := id hG
    have hRh := hRS h hhm
    obtain ⟨hrha, hrhb, -⟩ := hrow _ hRh
    refine aw_iload dX1_reachWithMultiples_43 (by rfl) ?_
    refine aw_aload_n dX1_reachWithMultiples_45 (by rfl) (Or.inr ⟨_, rfl⟩) ?_
    refine aw_get fX1_56 dX1_reachWithMultiples_46 (by assumption) (by rfl) ?_
    refine aw_icmp_geZ (tgt := 84) dX1_reachWithMultiples_49 (by decide) (by omega) (by omega) (fun hc_49 => ?_) (fun hc_49 => ?_)
    · exact absurd hc_49 (by omega)
    · obtain ⟨nc, Fc, hWc⟩ := hw0.raw (hcell _ hRh (w + j) (by omega)).1.1
      refine aw_aload_n dX1_reachWithMultiples_52 (by rfl) (Or.inr ⟨_, rfl⟩) ?_
      refine aw_get fX1_65 dX1_reachWithMultiples_53 (by assumption) (by rfl) ?_
      refine aw_aload_n dX1_reachWithMultiples_56 (by rfl) (Or.inr ⟨_, rfl⟩) ?_
      refine aw_get fX1_48 dX1_reachWithMultiples_57 (by assumption) (by rfl) ?_
      refine aw_iload dX1_reachWithMultiples_60 (by rfl) ?_
      refine aw_iaddZ dX1_reachWithMultiples_62 ?_
      refine aw_aaldZ (t0 := 5) (w + j) (by rfl) dX1_reachWithMultiples_63 (by assumption) (by omega) (by omega) (by omega) ?_
      refine aw_iload_n dX1_reachWithMultiples_64 (by rfl) ?_
      refine aw_iload dX1_reachWithMultiples_65 (by rfl) ?_
      refine aw_icmp_neZ (tgt := 74) dX1_reachWithMultiples_67 (by decide) (by omega) (by omega) (fun hc_67 => ?_) (fun hc_67 => ?_)
      · refine aw_lconstZ (z := 0) dX1_reachWithMultiples_74 (by decide) ?_
        refine aw_topl (y := if w + j - w = i then 1 else 0) (by first | (rw [if_pos (by omega)]; done) | (rw [if_neg (by omega)]; done)) ?_
        refine aw_callv vX1_69 dX1_reachWithMultiples_75 hWc.1 (w_put d hw0 (hcell _ hRh (w + j) (by omega)).1.1 (z := if w + j - w = i then 1 else 0) (by split <;> omega)) (by rfl) (by rfl) (by omega) (Nat.le_of_ble_eq_true rfl) ?_
        rintro _ V2 sz2 mc2 ms2 ⟨rfl, P2, L2, hs2⟩ -
        have hru2 := hru.up (z := if w + j - w = i then 1 else 0) (Nat.zero_le _) (fun b hb => hcin _ hRh b (w + j) (by omega) (by omega) (by omega)) (if_neg (show ¬ w + j < w by omega)).symm
        refine WE.stp (WSE.of hs2) ?_
        refine aw_iincZ dX1_reachWithMultiples_78 (by rfl) (by decide) ?_
        refine aw_goto (tgt := 43) dX1_reachWithMultiples_81 (by decide) ?_
        rw [show ((j : Int) + 1) = ((j + 1 : Nat) : Int) by omega]
        refine aw_pk [4, 3, 2, 0, 1] (by rfl) ?_
        exact IH (j + 1) (by omega) hs2.1 (fun a ha => (hs2.2.2.1 a ha).trans (hV1 a ha)) hru2
      · refine aw_lconstZ (z := 1) dX1_reachWithMultiples_70 (by decide) ?_
        refine aw_goto (tgt := 75) dX1_reachWithMultiples_71 (by decide) ?_
        refine aw_topl (y := if w + j - w = i then 1 else 0) (by first | (rw [if_pos (by omega)]; done) | (rw [if_neg (by omega)]; done)) ?_
        refine aw_callv vX1_69 dX1_reachWithMultiples_75 hWc.1 (w_put d hw0 (hcell _ hRh (w + j) (by omega)).1.1 (z := if w + j - w = i then 1 else 0) (by split <;> omega)) (by rfl) (by rfl) (by omega) (Nat.le_of_ble_eq_true rfl) ?_
        rintro _ V2 sz2 mc2 ms2 ⟨rfl, P2, L2, hs2⟩ -
        have hru2 := hru.up (z := if w + j - w = i then 1 else 0) (Nat.zero_le _) (fun b hb => hcin _ hRh b (w + j) (by omega) (by omega) (by omega)) (if_neg (show ¬ w + j < w by omega)).symm
        refine WE.stp (WSE.of hs2) ?_
        refine aw_iincZ dX1_reachWithMultiples_78 (by rfl) (by decide) ?_
        refine aw_goto (tgt := 43) dX1_reachWithMultiples_81 (by decide) ?_
        rw [show ((j : Int) + 1) = ((j + 1 : Nat) : Int) by omega]
        refine aw_pk [4, 3, 2, 0, 1] (by rfl) ?_
        exact IH (j + 1) (by omega) hs2.1 (fun a ha => (hs2.2.2.1 a ha).trans (hV1 a ha)) hru2
set_option maxRecDepth 20000 in
theorem rm_loop (g : GX) (d : Nat) {ws : List Nat} {SA : Nat → Prop} {D : DT} {G : GG} {w rn tb na ta : Nat} {N H : Nat → Int} {V0 : AH} {Z0 : Nat → Int} (hS : GSt ws SA D G) (hT0 : TbV g V0 tb na ta rn w N H) (hNr : ∀ k, k < 25 → -1000 ≤ N k ∧ N k ≤ 1000) (hrn : rn ≤ 5 ∧ w ≤ 5) (hwr : w + rn < G.mr) (hwm : w + rn ≤ G.mc) (hST : SA tb ∧ SA na ∧ SA ta) (hTE : ¬ EG G tb ∧ ¬ EG G na ∧ ¬ EG G ta) : ∀ (x i : Nat), i + x = rn → ∀ {V : AH} {sz : Nat} {Z : Nat → Int} {P L : Nat → Nat} {h : Nat} {ld : Nat → Int} {l ρ : Nat → Nat}, WG g ws SA V sz Z P L → DKV ws SA V Z D → (∀ a, SA a → ¬ EG G a → V a = V0 a) → GD g V D.dk G h (w + rn) ld ρ → (∀ i, i < h → ld i = (l i : Int)) → Stair (AM G Z ρ) h (w + rn) l → SpEq (TU N w) i (AM G Z ρ) h (w + rn) → NF G Z0 Z → AW g mX1_reachWithMultiples (d + 7) 15 [(2, .int (iZ i)), (0, .ref G.gd), (1, .ref tb)] [] V sz (WE g ws SA (EG G) V sz L (fun r V' Z' => none = r ∧ ∃ (h' : Nat) (ld' : Nat → Int) (l' : Nat → Nat) (ρ' : Nat → Nat), GD g V' D.dk G h' (w + rn) ld' ρ' ∧ (∀ i, i < h' → ld' i = (l' i : Int)) ∧ Stair (AM G Z' ρ') h' (w + rn) l' ∧ SpEq (TU N w) rn (AM G Z' ρ') h' (w + rn) ∧ NF G Z0 Z'))
  | 0, i, hx, V, sz, Z, P, L, h, ld, l, ρ, hw0, hD, hV, hG, hld, hst, hsp, hNF => by
    have hT := hT0.kept (hV _ hST.1 hTE.1) (hV _ hST.2.1 hTE.2.1) (hV _ hST.2.2 hTE.2.2)
    obtain ⟨ht1, ht2, ht3, -⟩ := id hT
    refine aw_iload_n dX1_reachWithMultiples_15 (by rfl) ?_
    refine aw_aload_n dX1_reachWithMultiples_16 (by rfl) (Or.inr ⟨_, rfl⟩) ?_
    refine aw_get fX1_56 dX1_reachWithMultiples_17 (by assumption) (by rfl) ?_
    refine aw_icmp_geZ (tgt := 94) dX1_reachWithMultiples_20 (by decide) (by omega) (by omega) (fun hc_20 => ?_) (fun hc_20 => ?_)
    · refine aw_ret dX1_reachWithMultiples_94 rfl ?_
      obtain rfl : i = rn := by omega
      exact WE.ret hw0 ⟨rfl, h, ld, l, ρ, hG, hld, hst, hsp, hNF⟩
    · exact absurd hc_20 (by omega)
  | x + 1, i, hx, V, sz, Z, P, L, h, ld, l, ρ, hw0, hD, hV, hG, hld, hst, hsp, hNF => by
    have IH := fun i hi => @rm_loop g d ws SA D G w rn tb na ta N H V0 Z0 hS hT0 hNr hrn hwr hwm hST hTE x i hi
    have hT := hT0.kept (hV _ hST.1 hTE.1) (hV _ hST.2.1 hTE.2.1) (hV _ hST.2.2 hTE.2.2)
    obtain ⟨ht1, ht2, ht3, -⟩ := id hT
    obtain ⟨-, -, -, hSr, hcell, hginj, hmr, hmc⟩ := id hS
    have hcin : ∀ ro, G.RS ro → ∀ i j, i < G.mc → j < G.mc → i ≠ j → G.ga ro i ≠ G.ga ro j := fun ro hr i j hi hj hne q => hne (hginj ro ro i j hr hr hi hj q).2
    obtain ⟨hgd, hra, hla, hrow, hRS, hinj⟩ := id hG
    have hhw := hst.1.le_w
    have hRh := hRS h (by omega)
    have hrh := hrow _ hRh
    have hDE : ¬ EG G D.dk := fun q => by rcases q with q | q | q; exact hS.2.1.2.2.2.1 q; exact hS.2.1.2.2.2.2.1 q; exact hS.2.1.2.2.2.2.2 q
    have hTb1 : ∀ k j, k < i + 1 → j < w + rn → ab (TU N w k j) ≤ 1000 := fun k j hk hj => by
      show ab (if j < w then _ else _) ≤ _
      split
      · have := hNr (5 * k + j) (by omega); unfold ab; omega
      · split <;> (unfold ab; omega)
    have hTb : ∀ k j, k < i → j < w + rn → ab (TU N w k j) ≤ 1000 := fun k j hk hj => hTb1 k j (by omega) hj
    have CONT : ∀ {V2 : AH} {sz2 : Nat} {Z2 : Nat → Int} {P2 L2 : Nat → Nat}, WG g ws SA V2 sz2 Z2 P2 L2 → (∀ a, SA a → V2 a = V a) → RU Z Z2 (G.ga (ρ h)) 0 (w + rn) (TU N w i) E0 → AW g mX1_reachWithMultiples (d + 7) 84 [(2, .int (iZ i)), (0, .ref G.gd), (1, .ref tb)] [] V2 sz2 (WE g ws SA (EG G) V2 sz2 L2 (fun r V' Z' => none = r ∧ ∃ (h' : Nat) (ld' : Nat → Int) (l' : Nat → Nat) (ρ' : Nat → Nat), GD g V' D.dk G h' (w + rn) ld' ρ' ∧ (∀ i, i < h' → ld' i = (l' i : Int)) ∧ Stair (AM G Z' ρ') h' (w + rn) l' ∧ SpEq (TU N w) rn (AM G Z' ρ') h' (w + rn) ∧ NF G Z0 Z')) := fun {V2 sz2 Z2 P2 L2} b1 b2 hru => by
      have hG1 := hG.kept hS b2
      obtain ⟨hgd1, -⟩ := id hG1
      have hot : ∀ a, a < G.mr → a ≠ h → ∀ j, j < G.mc → Z2 (G.ga (ρ a) j) = Z (G.ga (ρ a) j) := fun a ha hai j hj => hru.2 _ (fun q => q) (fun b _ hb q => hinj a h ha (by omega) hai (hginj _ _ _ _ (hRS a ha) hRh hj (by omega) q).1)
      have hrw : ∀ j, j < w + rn → Z2 (G.ga (ρ h) j) = TU N w i j := fun j hj => hru.1 j (Nat.zero_le _) hj
      have hNF1 : NF G Z Z2 := fun x h1 h2 h3 => hru.2 x (fun q => q) (fun b _ hb => h3 _ hRh b (by omega))
      have hD1 := hS.dkv hD (b2 _ hD.1) hNF1
      have hst1 : Stair (AM G Z2 ρ) h (w + rn) l := hst.cong (fun a ha j hj => hot a (by omega) (by omega) j (by omega))
      have hsp1 : SpEq (TU N w) i (AM G Z2 ρ) h (w + rn) := hsp.tr (SpEq.cong (fun a ha j hj => (hot a (by omega) (by omega) j (by omega)).symm))
      have hsp2 : SpEq (TU N w) (i + 1) (AM G Z2 ρ) (h + 1) (w + rn) := hsp1.push (fun _ _ _ _ => rfl) (fun _ _ _ _ => rfl) (fun j hj => (hrw j hj).symm)
      refine aw_aload_n dX1_reachWithMultiples_84 (by rfl) (Or.inr ⟨_, rfl⟩) ?_
      refine aw_callv vX1_62 dX1_reachWithMultiples_85 hgd1 (w_takeIn g d hS (by omega) hwr hwm hst1 ((LB.mono0 (n := i) (by omega) hTb (Nat.le_refl _)).eq hsp1) ((LB.mono0 (n := i + 1) (by omega) hTb1 (Nat.le_refl _)).eq hsp2) (KB.one (by omega)) (c := 1000) (by omega) (fun j hj => by show ab (Z2 _) ≤ _; rw [hrw j hj]; exact hTb1 i j (by omega) hj) (sm_t (by omega) (by omega)) hld b1 hD1 hG1) (by rfl) (by rfl) (by omega) (Nat.le_of_ble_eq_true rfl) ?_
      rintro _ V3 sz3 mc3 ms3 ⟨Z3, P3', L3, ⟨rfl, h3, ld3, l3, ρ3, hG3, hld3, hst3, hsp3, hNF3, hh3⟩, hs3⟩ -
      refine WE.stp hs3 ?_
      have hD3 := hS.dkv hD1 (hs3.2.2.1 _ hD.1 hDE) hNF3
      refine aw_iincZ dX1_reachWithMultiples_88 (by rfl) (by decide) ?_
      refine aw_goto (tgt := 15) dX1_reachWithMultiples_91 (by decide) ?_
      rw [show ((i : Int) + 1) = ((i + 1 : Nat) : Int) by omega]
      refine aw_pk [2, 0, 1] (by rfl) ?_
      exact IH (i + 1) (by omega) hs3.1 hD3 (fun a ha hE => (hs3.2.2.1 a ha hE).trans ((b2 a ha).trans (hV a ha hE))) hG3 hld3 hst3 (hsp2.tr hsp3) (hNF.tr (hNF1.tr hNF3))
    clear IH
    refine aw_iload_n dX1_reachWithMultiples_15 (by rfl) ?_
    refine aw_aload_n dX1_reachWithMultiples_16 (by rfl) (Or.inr ⟨_, rfl⟩) ?_
    refine aw_get fX1_56 dX1_reachWithMultiples_17 (by assumption) (by rfl) ?_
    refine aw_icmp_geZ (tgt := 94) dX1_reachWithMultiples_20 (by decide) (by omega) (by omega) (fun hc_20 => ?_) (fun hc_20 => ?_)
    · exact absurd hc_20 (by omega)
    · obtain ⟨hrha, hrhb, -⟩ := id hrh
      refine aw_aload_n dX1_reachWithMultiples_23 (by rfl) (Or.inr ⟨_, rfl⟩) ?_
      refine aw_get fX1_41 dX1_reachWithMultiples_24 (by assumption) (by rfl) ?_
      refine aw_aload_n dX1_reachWithMultiples_27 (by rfl) (Or.inr ⟨_, rfl⟩) ?_
      refine aw_get fX1_28 dX1_reachWithMultiples_28 (by assumption) (by rfl) ?_
      refine aw_aaldZ (t0 := 4) (h) (by rfl) dX1_reachWithMultiples_31 (by assumption) (by omega) (by omega) (by omega) ?_
      refine aw_astore_n dX1_reachWithMultiples_32 (by decide) (Or.inr ⟨_, rfl⟩) ?_
      refine aw_aload_n dX1_reachWithMultiples_33 (by rfl) (Or.inr ⟨_, rfl⟩) ?_
      refine aw_aload_n dX1_reachWithMultiples_34 (by rfl) (Or.inr ⟨_, rfl⟩) ?_
      refine aw_iload_n dX1_reachWithMultiples_35 (by rfl) ?_
      refine aw_iconstZ dX1_reachWithMultiples_36 ?_
      refine aw_callv vX1_58 dX1_reachWithMultiples_37 hrh.1 (w_read (i := i) (f := 1) d hw0 hrh hT.1 hT.2.1 hNr (Or.inl rfl) (by omega) (fun j hj => (hcell _ hRh j hj).1.1) (hcin _ hRh) (hSr _ hRh).1 (hSr _ hRh).2.1 hST.1 hST.2.1 (by omega)) (by rfl) (by rfl) (by omega) (Nat.le_of_ble_eq_true rfl) ?_
      rintro _ V1 sz1 mc1 ms1 ⟨Z1, P1', L1, ⟨rfl, hru1⟩, hs1⟩ -
      refine WE.stp (hs1.weak (fun _ q => q.elim)) ?_
      have hkv1 : ∀ a, SA a → V1 a = V a := fun a ha => hs1.2.2.1 a ha (fun q => q)
      have hru1 := hru1.cong (G' := TU N w i) (fun j _ hj => by show 1 * N (5 * i + j) = if j < w then _ else _; rw [if_pos hj, Int.one_mul])
      refine aw_iconstZ dX1_reachWithMultiples_40 ?_
      refine aw_istore dX1_reachWithMultiples_41 (by decide) ?_
      refine aw_pk [4, 3, 2, 0, 1] (by rfl) ?_
      exact rm_in g d hS hT hrn (by omega) hwm hST hG (by omega) (fun {V2 sz2 Z2 P2 L2} b1 b2 b3 => CONT b1 b2 b3) rn 0 (by omega) hs1.1 hkv1 hru1
theorem w_reachWithMultiples (g : GX) (d : Nat) {ws : List Nat} {SA : Nat → Prop} {D : DT} {G : GG} {w rn tb na ta : Nat} {N H : Nat → Int} {Z0 : Nat → Int} (hS : GSt ws SA D G) (hNr : ∀ k, k < 25 → -1000 ≤ N k ∧ N k ≤ 1000) (hrn : rn ≤ 5 ∧ w ≤ 5) (hwr : w + rn < G.mr) (hwm : w + rn ≤ G.mc) (hST : SA tb ∧ SA na ∧ SA ta) (hTE : ¬ EG G tb ∧ ¬ EG G na ∧ ¬ EG G ta) {V : AH} {sz : Nat} {P L : Nat → Nat} {h w0 : Nat} {ld : Nat → Int} {ρ : Nat → Nat} (hw0 : WG g ws SA V sz Z0 P L) (hD : DKV ws SA V Z0 D) (hT0 : TbV g V tb na ta rn w N H) (hG : GD g V D.dk G h w0 ld ρ) : AMet g mX1_reachWithMultiples (d + 7) [.ref G.gd, .ref tb] V sz (WE g ws SA (EG G) V sz L (fun r V' Z' => none = r ∧ ∃ (h' : Nat) (ld' : Nat → Int) (l' : Nat → Nat) (ρ' : Nat → Nat), GD g V' D.dk G h' (w + rn) ld' ρ' ∧ (∀ i, i < h' → ld' i = (l' i : Int)) ∧ Stair (AM G Z' ρ') h' (w + rn) l' ∧ SpEq (TU N w) rn (AM G Z' ρ') h' (w + rn) ∧ NF G Z0 Z')) := by
  obtain ⟨ht1, ht2, ht3, -⟩ := id hT0
  have hgd := hG.1
  refine AMet.of rfl rfl (Nat.le_of_ble_eq_true rfl) ?_
  show AW g mX1_reachWithMultiples (d + 7) 0 [(0, .ref G.gd), (1, .ref tb)] [] V sz _
  refine aw_aload_n dX1_reachWithMultiples_0 (by rfl) (Or.inr ⟨_, rfl⟩) ?_
  refine aw_aload_n dX1_reachWithMultiples_1 (by rfl) (Or.inr ⟨_, rfl⟩) ?_
  refine aw_get fX1_48 dX1_reachWithMultiples_2 (by assumption) (by rfl) ?_
  refine aw_aload_n dX1_reachWithMultiples_5 (by rfl) (Or.inr ⟨_, rfl⟩) ?_
  refine aw_get fX1_56 dX1_reachWithMultiples_6 (by assumption) (by rfl) ?_
  refine aw_iaddZ dX1_reachWithMultiples_9 ?_
  refine aw_topi (y := ((w + rn : Nat) : Int)) (by omega) ?_
  refine aw_callv vX1_53 dX1_reachWithMultiples_10 hgd (t_gbegin g d (w' := w + rn) hG) (by rfl) (by rfl) (by omega) (Nat.le_of_ble_eq_true rfl) ?_
  rintro _ _ _ _ _ ⟨rfl, rfl, rfl, rfl, rfl⟩ -
  refine q0 ?_
  refine WE.stp0 (WSE.sto hw0 hS.1.1 (Or.inl rfl)) ?_
  have hw1 := hw0.sto (e := grO G.ra G.la D.dk G.fa G.pr (0 : Nat) (w + rn : Nat)) hS.1.1
  refine aw_iconstZ dX1_reachWithMultiples_13 ?_
  refine aw_istore_n dX1_reachWithMultiples_14 (by decide) ?_
  refine aw_pk [2, 0, 1] (by rfl) ?_
  exact rm_loop g d hS (hT0.kept (AHu_ne (fun q => hTE.1 (Or.inl q))) (AHu_ne (fun q => hTE.2.1 (Or.inl q))) (AHu_ne (fun q => hTE.2.2 (Or.inl q)))) hNr hrn hwr hwm hST hTE rn 0 (by omega) hw1 (hD.kept (AHu_ne hS.2.1.2.2.2.1) rfl rfl rfl) (fun _ _ _ => rfl) (hG.begin hS 0 (w + rn)) (l := fun _ => 0) (fun i hi => absurd hi (by omega)) Stair.nil SpEq.nil NF.rf

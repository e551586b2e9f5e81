/-! ===== Grid: isWrittenIn, multiplyLeads ===== -/
abbrev mX1_isWrittenIn : MI := (yX1_isWrittenIn, cX1_isWrittenIn, 5, (some FieldType.boolean), noX)
theorem dX1_isWrittenIn_0 : decode cX1_isWrittenIn 0 = .ok (.iconst 0, 1) := by decide +kernel
theorem dX1_isWrittenIn_1 : decode cX1_isWrittenIn 1 = .ok (.istore_n 2, 1) := by decide +kernel
theorem dX1_isWrittenIn_2 : decode cX1_isWrittenIn 2 = .ok (.iload_n 2, 1) := by decide +kernel
theorem dX1_isWrittenIn_3 : decode cX1_isWrittenIn 3 = .ok (.aload_n 1, 1) := by decide +kernel
theorem dX1_isWrittenIn_4 : decode cX1_isWrittenIn 4 = .ok (.getfield 56, 3) := by decide +kernel
theorem dX1_isWrittenIn_7 : decode cX1_isWrittenIn 7 = .ok (.if_icmp .ge 75, 3) := by decide +kernel
theorem dX1_isWrittenIn_10 : decode cX1_isWrittenIn 10 = .ok (.iconst 0, 1) := by decide +kernel
theorem dX1_isWrittenIn_11 : decode cX1_isWrittenIn 11 = .ok (.istore_n 3, 1) := by decide +kernel
theorem dX1_isWrittenIn_12 : decode cX1_isWrittenIn 12 = .ok (.iload_n 3, 1) := by decide +kernel
theorem dX1_isWrittenIn_13 : decode cX1_isWrittenIn 13 = .ok (.aload_n 1, 1) := by decide +kernel
theorem dX1_isWrittenIn_14 : decode cX1_isWrittenIn 14 = .ok (.getfield 48, 3) := by decide +kernel
theorem dX1_isWrittenIn_17 : decode cX1_isWrittenIn 17 = .ok (.if_icmp .ge 59, 3) := by decide +kernel
theorem dX1_isWrittenIn_20 : decode cX1_isWrittenIn 20 = .ok (.aload_n 1, 1) := by decide +kernel
theorem dX1_isWrittenIn_21 : decode cX1_isWrittenIn 21 = .ok (.getfield 99, 3) := by decide +kernel
theorem dX1_isWrittenIn_24 : decode cX1_isWrittenIn 24 = .ok (.iload_n 2, 1) := by decide +kernel
theorem dX1_isWrittenIn_25 : decode cX1_isWrittenIn 25 = .ok (.iconst 5, 1) := by decide +kernel
theorem dX1_isWrittenIn_26 : decode cX1_isWrittenIn 26 = .ok (.imul, 1) := by decide +kernel
theorem dX1_isWrittenIn_27 : decode cX1_isWrittenIn 27 = .ok (.iload_n 3, 1) := by decide +kernel
theorem dX1_isWrittenIn_28 : decode cX1_isWrittenIn 28 = .ok (.iadd, 1) := by decide +kernel
theorem dX1_isWrittenIn_29 : decode cX1_isWrittenIn 29 = .ok (.iaload, 1) := by decide +kernel
theorem dX1_isWrittenIn_30 : decode cX1_isWrittenIn 30 = .ok (.istore 4, 2) := by decide +kernel
theorem dX1_isWrittenIn_32 : decode cX1_isWrittenIn 32 = .ok (.iload_n 2, 1) := by decide +kernel
theorem dX1_isWrittenIn_33 : decode cX1_isWrittenIn 33 = .ok (.aload_n 0, 1) := by decide +kernel
theorem dX1_isWrittenIn_34 : decode cX1_isWrittenIn 34 = .ok (.getfield 28, 3) := by decide +kernel
theorem dX1_isWrittenIn_37 : decode cX1_isWrittenIn 37 = .ok (.if_icmp .ge 26, 3) := by decide +kernel
theorem dX1_isWrittenIn_40 : decode cX1_isWrittenIn 40 = .ok (.aload_n 0, 1) := by decide +kernel
theorem dX1_isWrittenIn_41 : decode cX1_isWrittenIn 41 = .ok (.getfield 41, 3) := by decide +kernel
theorem dX1_isWrittenIn_44 : decode cX1_isWrittenIn 44 = .ok (.iload_n 2, 1) := by decide +kernel
theorem dX1_isWrittenIn_45 : decode cX1_isWrittenIn 45 = .ok (.aaload, 1) := by decide +kernel
theorem dX1_isWrittenIn_46 : decode cX1_isWrittenIn 46 = .ok (.getfield 65, 3) := by decide +kernel
theorem dX1_isWrittenIn_49 : decode cX1_isWrittenIn 49 = .ok (.iload_n 3, 1) := by decide +kernel
theorem dX1_isWrittenIn_50 : decode cX1_isWrittenIn 50 = .ok (.aaload, 1) := by decide +kernel
theorem dX1_isWrittenIn_51 : decode cX1_isWrittenIn 51 = .ok (.iload 4, 2) := by decide +kernel
theorem dX1_isWrittenIn_53 : decode cX1_isWrittenIn 53 = .ok (.i2l, 1) := by decide +kernel
theorem dX1_isWrittenIn_54 : decode cX1_isWrittenIn 54 = .ok (.invokevirtual 102, 3) := by decide +kernel
theorem dX1_isWrittenIn_57 : decode cX1_isWrittenIn 57 = .ok (.ifCond .ne 13, 3) := by decide +kernel
theorem dX1_isWrittenIn_60 : decode cX1_isWrittenIn 60 = .ok (.goto 8, 3) := by decide +kernel
theorem dX1_isWrittenIn_63 : decode cX1_isWrittenIn 63 = .ok (.iload 4, 2) := by decide +kernel
theorem dX1_isWrittenIn_65 : decode cX1_isWrittenIn 65 = .ok (.ifCond .eq 5, 3) := by decide +kernel
theorem dX1_isWrittenIn_68 : decode cX1_isWrittenIn 68 = .ok (.iconst 0, 1) := by decide +kernel
theorem dX1_isWrittenIn_69 : decode cX1_isWrittenIn 69 = .ok (.ireturn, 1) := by decide +kernel
theorem dX1_isWrittenIn_70 : decode cX1_isWrittenIn 70 = .ok (.iinc 3 1, 3) := by decide +kernel
theorem dX1_isWrittenIn_73 : decode cX1_isWrittenIn 73 = .ok (.goto (-61), 3) := by decide +kernel
theorem dX1_isWrittenIn_76 : decode cX1_isWrittenIn 76 = .ok (.iinc 2 1, 3) := by decide +kernel
theorem dX1_isWrittenIn_79 : decode cX1_isWrittenIn 79 = .ok (.goto (-77), 3) := by decide +kernel
theorem dX1_isWrittenIn_82 : decode cX1_isWrittenIn 82 = .ok (.iconst 1, 1) := by decide +kernel
theorem dX1_isWrittenIn_83 : decode cX1_isWrittenIn 83 = .ok (.ireturn, 1) := by decide +kernel
theorem iw_in (g : GX) (d : Nat) {ws : List Nat} {SA : Nat → Prop} {V : AH} {sz : Nat} {Z : Nat → Int} {P L : Nat → Nat} {D : DT} {G : GG} {h w rn tb na ta : Nat} {N H : Nat → Int} {ld : Nat → Int} {ρ : Nat → Nat} {b : Int} (hw0 : WG g ws SA V sz Z P L) (hS : GSt ws SA D G) (hG : GD g V D.dk G h w ld ρ) (hhm : h ≤ G.mr) (hwm : w ≤ G.mc) (hT : TbV g V tb na ta rn w N H) (hNr : ∀ k, k < 25 → -1000 ≤ N k ∧ N k ≤ 1000) (hrn : rn ≤ 5 ∧ w ≤ 5) (hb : (b = 1 ∧ (∀ i j, i < rn → j < w → if i < h then Z (G.ga (ρ i) j) = N (5 * i + j) else N (5 * i + j) = 0)) ∨ (b = 0 ∧ ¬ (∀ i j, i < rn → j < w → if i < h then Z (G.ga (ρ i) j) = N (5 * i + j) else N (5 * i + j) = 0))) {i : Nat} (hi : i < rn) (hKK : (∀ j, j < w → (if i < h then Z (G.ga (ρ i) j) = N (5 * i + j) else N (5 * i + j) = 0)) → AW g mX1_isWrittenIn (d + 2) 76 [(2, .int (iZ i)), (0, .ref G.gd), (1, .ref tb)] [] V sz (Ex (some (.int (iZ b))) V sz 0 0)) : ∀ (x j : Nat), j + x = w → (∀ k, k < j → (if i < h then Z (G.ga (ρ i) k) = N (5 * i + k) else N (5 * i + k) = 0)) → AW g mX1_isWrittenIn (d + 2) 12 [(3, .int (iZ j)), (2, .int (iZ i)), (0, .ref G.gd), (1, .ref tb)] [] V sz (Ex (some (.int (iZ b))) V sz 0 0)
  | 0, j, hx, hpre => by
    obtain ⟨hgd, hra, hla, hrow, hRS, hinj⟩ := id hG
    obtain ⟨-, -, -, -, hcell, -, hmr, hmc⟩ := id hS
    obtain ⟨ht1, ht2, ht3, -⟩ := id hT
    refine aw_iload_n dX1_isWrittenIn_12 (by rfl) ?_
    refine aw_aload_n dX1_isWrittenIn_13 (by rfl) (Or.inr ⟨_, rfl⟩) ?_
    refine aw_get fX1_48 dX1_isWrittenIn_14 (by assumption) (by rfl) ?_
    refine aw_icmp_geZ (tgt := 76) dX1_isWrittenIn_17 (by decide) (by omega) (by omega) (fun hc_17 => ?_) (fun hc_17 => ?_)
    · refine aw_pk [2, 0, 1] (by rfl) ?_
      exact hKK (fun k hk => hpre k (by omega))
    · exact absurd hc_17 (by omega)
  | x + 1, j, hx, hpre => by
    obtain ⟨hgd, hra, hla, hrow, hRS, hinj⟩ := id hG
    obtain ⟨-, -, -, -, hcell, -, hmr, hmc⟩ := id hS
    obtain ⟨ht1, ht2, ht3, -⟩ := id hT
    have IH := fun j hj => iw_in g d hw0 hS hG hhm hwm hT hNr hrn hb hi hKK x j hj
    clear hKK
    refine aw_iload_n dX1_isWrittenIn_12 (by rfl) ?_
    refine aw_aload_n dX1_isWrittenIn_13 (by rfl) (Or.inr ⟨_, rfl⟩) ?_
    refine aw_get fX1_48 dX1_isWrittenIn_14 (by assumption) (by rfl) ?_
    refine aw_icmp_geZ (tgt := 76) dX1_isWrittenIn_17 (by decide) (by omega) (by omega) (fun hc_17 => ?_) (fun hc_17 => ?_)
    · exact absurd hc_17 (by omega)
    · refine aw_aload_n dX1_isWrittenIn_20 (by rfl) (Or.inr ⟨_, rfl⟩) ?_
      refine aw_get fX1_99 dX1_isWrittenIn_21 (by assumption) (by rfl) ?_
      refine aw_iload_n dX1_isWrittenIn_24 (by rfl) ?_
      refine aw_iconstZ dX1_isWrittenIn_25 ?_
      refine aw_imulZ dX1_isWrittenIn_26 ?_
      refine aw_iload_n dX1_isWrittenIn_27 (by rfl) ?_
      refine aw_iaddZ dX1_isWrittenIn_28 ?_
      refine aw_ialdZ (5 * i + j) dX1_isWrittenIn_29 (by assumption) (by omega) (by omega) (by omega) ?_
      refine aw_istore dX1_isWrittenIn_30 (by decide) ?_
      refine aw_iload_n dX1_isWrittenIn_32 (by rfl) ?_
      refine aw_aload_n dX1_isWrittenIn_33 (by rfl) (Or.inr ⟨_, rfl⟩) ?_
      refine aw_get fX1_28 dX1_isWrittenIn_34 (by assumption) (by rfl) ?_
      refine aw_icmp_geZ (tgt := 63) dX1_isWrittenIn_37 (by decide) (by omega) (by omega) (fun hc_37 => ?_) (fun hc_37 => ?_)
      · refine aw_iload dX1_isWrittenIn_63 (by rfl) ?_
        refine aw_if_eqZ (tgt := 70) dX1_isWrittenIn_65 (by decide) (by have := hNr (5 * i + j) (by omega); omega) (fun hc_65 => ?_) (fun hc_65 => ?_)
        · have hPij : (if i < h then Z (G.ga (ρ i) j) = N (5 * i + j) else N (5 * i + j) = 0) := by
            rw [if_neg (by omega)]; exact hc_65
          refine aw_iincZ dX1_isWrittenIn_70 (by rfl) (by decide) ?_
          refine aw_goto (tgt := 12) dX1_isWrittenIn_73 (by decide) ?_
          rw [show ((j : Int) + 1) = ((j + 1 : Nat) : Int) by omega]
          refine aw_pk [3, 2, 0, 1] (by rfl) ?_
          exact IH (j + 1) (by omega) (fun k hk => (Nat.lt_or_eq_of_le (Nat.le_of_lt_succ hk)).elim (hpre k) (fun q => q ▸ hPij))
        · have hN : ¬ (if i < h then Z (G.ga (ρ i) j) = N (5 * i + j) else N (5 * i + j) = 0) := by
            rw [if_neg (by omega)]; exact hc_65
          obtain rfl : b = 0 := by
            rcases hb with ⟨_, q⟩ | ⟨q, _⟩
            · exact absurd (q i j (by omega) (by omega)) hN
            · exact q
          refine aw_iconstZ dX1_isWrittenIn_68 ?_
          refine aw_iret dX1_isWrittenIn_69 rfl (by rfl) ?_
          exact ⟨rfl, rfl, rfl, rfl, rfl⟩
      · obtain ⟨hri, hci, -⟩ := hrow _ (hRS i (by omega))
        obtain ⟨nn, FN, hWn⟩ := hw0.raw (hcell _ (hRS i (by omega)) j (by omega)).1.1
        have hWno := hWn.1
        refine aw_aload_n dX1_isWrittenIn_40 (by rfl) (Or.inr ⟨_, rfl⟩) ?_
        refine aw_get fX1_41 dX1_isWrittenIn_41 (by assumption) (by rfl) ?_
        refine aw_iload_n dX1_isWrittenIn_44 (by rfl) ?_
        refine aw_aaldZ (t0 := 4) (i) (by rfl) dX1_isWrittenIn_45 (by assumption) (by omega) (by omega) (by omega) ?_
        refine aw_get fX1_65 dX1_isWrittenIn_46 (by assumption) (by rfl) ?_
        refine aw_iload_n dX1_isWrittenIn_49 (by rfl) ?_
        refine aw_aaldZ (t0 := 5) (j) (by rfl) dX1_isWrittenIn_50 (by assumption) (by omega) (by omega) (by omega) ?_
        refine aw_iload dX1_isWrittenIn_51 (by rfl) ?_
        refine aw_i2lZ dX1_isWrittenIn_53 (by have := hNr (5 * i + j) (by omega); omega) ?_
        refine aw_callv vX1_102 dX1_isWrittenIn_54 hWno (t_is g d (hw0.2.1 _ (hcell _ (hRS i (by omega)) j (by omega)).1.1) (v := N (5 * i + j)) (by have := hNr (5 * i + j) (by omega); omega)) (by rfl) (by rfl) (by omega) (Nat.le_of_ble_eq_true rfl) ?_
        rintro _ _ _ _ _ ⟨rfl, rfl, rfl, rfl, rfl⟩ -
        refine q0 ?_
        refine aw_if_neZ (tgt := 70) dX1_isWrittenIn_57 (by decide) (by split <;> omega) (fun hc_57 => ?_) (fun hc_57 => ?_)
        · have hPij : (if i < h then Z (G.ga (ρ i) j) = N (5 * i + j) else N (5 * i + j) = 0) := by
            rw [if_pos (by omega)]
            revert hc_57; split
            · intro _; assumption
            · intro q; exact absurd rfl q
          refine aw_iincZ dX1_isWrittenIn_70 (by rfl) (by decide) ?_
          refine aw_goto (tgt := 12) dX1_isWrittenIn_73 (by decide) ?_
          rw [show ((j : Int) + 1) = ((j + 1 : Nat) : Int) by omega]
          refine aw_pk [3, 2, 0, 1] (by rfl) ?_
          exact IH (j + 1) (by omega) (fun k hk => (Nat.lt_or_eq_of_le (Nat.le_of_lt_succ hk)).elim (hpre k) (fun q => q ▸ hPij))
        · have hN : ¬ (if i < h then Z (G.ga (ρ i) j) = N (5 * i + j) else N (5 * i + j) = 0) := by
            rw [if_pos (by omega)]
            revert hc_57; split
            · intro q; exact absurd q (by decide)
            · intro _; assumption
          obtain rfl : b = 0 := by
            rcases hb with ⟨_, q⟩ | ⟨q, _⟩
            · exact absurd (q i j (by omega) (by omega)) hN
            · exact q
          refine aw_goto (tgt := 68) dX1_isWrittenIn_60 (by decide) ?_
          refine aw_iconstZ dX1_isWrittenIn_68 ?_
          refine aw_iret dX1_isWrittenIn_69 rfl (by rfl) ?_
          exact ⟨rfl, rfl, rfl, rfl, rfl⟩
theorem iw_out (g : GX) (d : Nat) {ws : List Nat} {SA : Nat → Prop} {V : AH} {sz : Nat} {Z : Nat → Int} {P L : Nat → Nat} {D : DT} {G : GG} {h w rn tb na ta : Nat} {N H : Nat → Int} {ld : Nat → Int} {ρ : Nat → Nat} {b : Int} (hw0 : WG g ws SA V sz Z P L) (hS : GSt ws SA D G) (hG : GD g V D.dk G h w ld ρ) (hhm : h ≤ G.mr) (hwm : w ≤ G.mc) (hT : TbV g V tb na ta rn w N H) (hNr : ∀ k, k < 25 → -1000 ≤ N k ∧ N k ≤ 1000) (hrn : rn ≤ 5 ∧ w ≤ 5) (hb : (b = 1 ∧ (∀ i j, i < rn → j < w → if i < h then Z (G.ga (ρ i) j) = N (5 * i + j) else N (5 * i + j) = 0)) ∨ (b = 0 ∧ ¬ (∀ i j, i < rn → j < w → if i < h then Z (G.ga (ρ i) j) = N (5 * i + j) else N (5 * i + j) = 0))) : ∀ (x i : Nat), i + x = rn → (∀ k, k < i → ∀ j, j < w → if k < h then Z (G.ga (ρ k) j) = N (5 * k + j) else N (5 * k + j) = 0) → AW g mX1_isWrittenIn (d + 2) 2 [(2, .int (iZ i)), (0, .ref G.gd), (1, .ref tb)] [] V sz (Ex (some (.int (iZ b))) V sz 0 0)
  | 0, i, hx, hpre => by
    obtain ⟨hgd, hra, hla, hrow, hRS, hinj⟩ := id hG
    obtain ⟨-, -, -, -, hcell, -, hmr, hmc⟩ := id hS
    obtain ⟨ht1, ht2, ht3, -⟩ := id hT
    refine aw_iload_n dX1_isWrittenIn_2 (by rfl) ?_
    refine aw_aload_n dX1_isWrittenIn_3 (by rfl) (Or.inr ⟨_, rfl⟩) ?_
    refine aw_get fX1_56 dX1_isWrittenIn_4 (by assumption) (by rfl) ?_
    refine aw_icmp_geZ (tgt := 82) dX1_isWrittenIn_7 (by decide) (by omega) (by omega) (fun hc_7 => ?_) (fun hc_7 => ?_)
    · obtain rfl : b = 1 := by
        rcases hb with ⟨q, _⟩ | ⟨_, q⟩
        · exact q
        · exact absurd (fun i j hi hj => hpre i (by omega) j hj) q
      refine aw_iconstZ dX1_isWrittenIn_82 ?_
      refine aw_iret dX1_isWrittenIn_83 rfl (by rfl) ?_
      exact ⟨rfl, rfl, rfl, rfl, rfl⟩
    · exact absurd hc_7 (by omega)
  | x + 1, i, hx, hpre => by
    obtain ⟨hgd, hra, hla, hrow, hRS, hinj⟩ := id hG
    obtain ⟨-, -, -, -, hcell, -, hmr, hmc⟩ := id hS
    obtain ⟨ht1, ht2, ht3, -⟩ := id hT
    have IH := iw_out g d hw0 hS hG hhm hwm hT hNr hrn hb x (i + 1) (by omega)
    have IN := iw_in g d hw0 hS hG hhm hwm hT hNr hrn hb (i := i) (by omega) (fun hq => by
      refine aw_iincZ dX1_isWrittenIn_76 (by rfl) (by decide) ?_
      refine aw_goto (tgt := 2) dX1_isWrittenIn_79 (by decide) ?_
      rw [show ((i : Int) + 1) = ((i + 1 : Nat) : Int) by omega]
      refine aw_pk [2, 0, 1] (by rfl) ?_
      exact IH (fun k hk => (Nat.lt_or_eq_of_le (Nat.le_of_lt_succ hk)).elim (hpre k) (fun q => q ▸ hq))) w 0 (by omega) (fun k hk => absurd hk (by omega))
    clear IH
    refine aw_iload_n dX1_isWrittenIn_2 (by rfl) ?_
    refine aw_aload_n dX1_isWrittenIn_3 (by rfl) (Or.inr ⟨_, rfl⟩) ?_
    refine aw_get fX1_56 dX1_isWrittenIn_4 (by assumption) (by rfl) ?_
    refine aw_icmp_geZ (tgt := 82) dX1_isWrittenIn_7 (by decide) (by omega) (by omega) (fun hc_7 => ?_) (fun hc_7 => ?_)
    · exact absurd hc_7 (by omega)
    · refine aw_iconstZ dX1_isWrittenIn_10 ?_
      refine aw_istore_n dX1_isWrittenIn_11 (by decide) ?_
      refine aw_pk [3, 2, 0, 1] (by rfl) ?_
      exact IN
theorem t_isWrittenIn (g : GX) (d : Nat) {ws : List Nat} {SA : Nat → Prop} {V : AH} {sz : Nat} {Z : Nat → Int} {P L : Nat → Nat} {D : DT} {G : GG} {h w rn tb na ta : Nat} {N H : Nat → Int} {ld : Nat → Int} {ρ : Nat → Nat} {b : Int} (hw0 : WG g ws SA V sz Z P L) (hS : GSt ws SA D G) (hG : GD g V D.dk G h w ld ρ) (hhm : h ≤ G.mr) (hwm : w ≤ G.mc) (hT : TbV g V tb na ta rn w N H) (hNr : ∀ k, k < 25 → -1000 ≤ N k ∧ N k ≤ 1000) (hrn : rn ≤ 5 ∧ w ≤ 5) (hb : (b = 1 ∧ (∀ i j, i < rn → j < w → if i < h then Z (G.ga (ρ i) j) = N (5 * i + j) else N (5 * i + j) = 0)) ∨ (b = 0 ∧ ¬ (∀ i j, i < rn → j < w → if i < h then Z (G.ga (ρ i) j) = N (5 * i + j) else N (5 * i + j) = 0))) : AMet g mX1_isWrittenIn (d + 2) [.ref G.gd, .ref tb] V sz (Ex (some (.int (iZ b))) V sz 0 0) := by
  refine AMet.of rfl rfl (Nat.le_of_ble_eq_true rfl) ?_
  show AW g mX1_isWrittenIn (d + 2) 0 [(0, .ref G.gd), (1, .ref tb)] [] V sz _
  refine aw_iconstZ dX1_isWrittenIn_0 ?_
  refine aw_istore_n dX1_isWrittenIn_1 (by decide) ?_
  refine aw_pk [2, 0, 1] (by rfl) ?_
  exact iw_out g d hw0 hS hG hhm hwm hT hNr hrn hb rn 0 (by omega) (fun k hk => absurd hk (by omega))
abbrev mX1_multiplyLeads : MI := (yX1_multiplyLeads, cX1_multiplyLeads, 3, none, noX)
theorem dX1_multiplyLeads_0 : decode cX1_multiplyLeads 0 = .ok (.aload_n 1, 1) := by decide +kernel
theorem dX1_multiplyLeads_1 : decode cX1_multiplyLeads 1 = .ok (.lconst 1, 1) := by decide +kernel
theorem dX1_multiplyLeads_2 : decode cX1_multiplyLeads 2 = .ok (.invokevirtual 69, 3) := by decide +kernel
theorem dX1_multiplyLeads_5 : decode cX1_multiplyLeads 5 = .ok (.iconst 0, 1) := by decide +kernel
theorem dX1_multiplyLeads_6 : decode cX1_multiplyLeads 6 = .ok (.istore_n 2, 1) := by decide +kernel
theorem dX1_multiplyLeads_7 : decode cX1_multiplyLeads 7 = .ok (.iload_n 2, 1) := by decide +kernel
theorem dX1_multiplyLeads_8 : decode cX1_multiplyLeads 8 = .ok (.aload_n 0, 1) := by decide +kernel
theorem dX1_multiplyLeads_9 : decode cX1_multiplyLeads 9 = .ok (.getfield 28, 3) := by decide +kernel
theorem dX1_multiplyLeads_12 : decode cX1_multiplyLeads 12 = .ok (.if_icmp .ge 41, 3) := by decide +kernel
theorem dX1_multiplyLeads_15 : decode cX1_multiplyLeads 15 = .ok (.aload_n 0, 1) := by decide +kernel
theorem dX1_multiplyLeads_16 : decode cX1_multiplyLeads 16 = .ok (.getfield 25, 3) := by decide +kernel
theorem dX1_multiplyLeads_19 : decode cX1_multiplyLeads 19 = .ok (.aload_n 1, 1) := by decide +kernel
theorem dX1_multiplyLeads_20 : decode cX1_multiplyLeads 20 = .ok (.aload_n 0, 1) := by decide +kernel
theorem dX1_multiplyLeads_21 : decode cX1_multiplyLeads 21 = .ok (.getfield 41, 3) := by decide +kernel
theorem dX1_multiplyLeads_24 : decode cX1_multiplyLeads 24 = .ok (.iload_n 2, 1) := by decide +kernel
theorem dX1_multiplyLeads_25 : decode cX1_multiplyLeads 25 = .ok (.aaload, 1) := by decide +kernel
theorem dX1_multiplyLeads_26 : decode cX1_multiplyLeads 26 = .ok (.getfield 65, 3) := by decide +kernel
theorem dX1_multiplyLeads_29 : decode cX1_multiplyLeads 29 = .ok (.aload_n 0, 1) := by decide +kernel
theorem dX1_multiplyLeads_30 : decode cX1_multiplyLeads 30 = .ok (.getfield 35, 3) := by decide +kernel
theorem dX1_multiplyLeads_33 : decode cX1_multiplyLeads 33 = .ok (.iload_n 2, 1) := by decide +kernel
theorem dX1_multiplyLeads_34 : decode cX1_multiplyLeads 34 = .ok (.iaload, 1) := by decide +kernel
theorem dX1_multiplyLeads_35 : decode cX1_multiplyLeads 35 = .ok (.aaload, 1) := by decide +kernel
theorem dX1_multiplyLeads_36 : decode cX1_multiplyLeads 36 = .ok (.invokevirtual 106, 3) := by decide +kernel
theorem dX1_multiplyLeads_39 : decode cX1_multiplyLeads 39 = .ok (.aload_n 1, 1) := by decide +kernel
theorem dX1_multiplyLeads_40 : decode cX1_multiplyLeads 40 = .ok (.aload_n 0, 1) := by decide +kernel
theorem dX1_multiplyLeads_41 : decode cX1_multiplyLeads 41 = .ok (.getfield 25, 3) := by decide +kernel
theorem dX1_multiplyLeads_44 : decode cX1_multiplyLeads 44 = .ok (.invokevirtual 109, 3) := by decide +kernel
theorem dX1_multiplyLeads_47 : decode cX1_multiplyLeads 47 = .ok (.iinc 2 1, 3) := by decide +kernel
theorem dX1_multiplyLeads_50 : decode cX1_multiplyLeads 50 = .ok (.goto (-43), 3) := by decide +kernel
theorem dX1_multiplyLeads_53 : decode cX1_multiplyLeads 53 = .ok (.return_, 1) := by decide +kernel
theorem mu_loop (g : GX) (d : Nat) {ws : List Nat} {SA : Nat → Prop} {D : DT} {G : GG} {h w res : Nat} {l : Nat → Nat} {ld : Nat → Int} {ρ : Nat → Nat} {V0 : AH} {Z0 : Nat → Int} (hS : GSt ws SA D G) (hG0 : GD g V0 D.dk G h w ld ρ) (hhm : h ≤ G.mr) (hwm : w ≤ G.mc) (hld : ∀ i, i < h → ld i = (l i : Int)) (hlw : ∀ i, i < h → l i < w) (hres : res ∈ ws ∧ res ≠ G.pr ∧ ∀ ro, G.RS ro → ∀ j, j < G.mc → res ≠ G.ga ro j) (hSm : ∀ k, k ≤ h → Sm (Pd (fun k => AM G Z0 ρ k (l k)) k)) (hSc : ∀ k, k < h → Sm (AM G Z0 ρ k (l k))) : ∀ (x k : Nat), k + x = h → ∀ {V : AH} {sz : Nat} {Z : Nat → Int} {P L : Nat → Nat}, WG g ws SA V sz Z P L → (∀ a, SA a → V a = V0 a) → Z res = Pd (fun k => AM G Z0 ρ k (l k)) k → (∀ x, x ≠ res → x ≠ G.pr → Z x = Z0 x) → AW g mX1_multiplyLeads (d + 4) 7 [(2, .int (iZ k)), (0, .ref G.gd), (1, .ref res)] [] V sz (WE g ws SA E0 V sz L (fun r _ Z' => none = r ∧ Z' res = Pd (fun k => AM G Z0 ρ k (l k)) h ∧ ∀ x, x ≠ res → x ≠ G.pr → Z' x = Z0 x))
  | 0, k, hx, V, sz, Z, P, L, hw0, hV, hzr, hoth => by
    obtain ⟨-, -, -, -, -, -, hmr, hmc⟩ := id hS
    obtain ⟨hgd, hra, hla, hrow, hRS, hinj⟩ := id (hG0.kept hS hV)
    refine aw_iload_n dX1_multiplyLeads_7 (by rfl) ?_
    refine aw_aload_n dX1_multiplyLeads_8 (by rfl) (Or.inr ⟨_, rfl⟩) ?_
    refine aw_get fX1_28 dX1_multiplyLeads_9 (by assumption) (by rfl) ?_
    refine aw_icmp_geZ (tgt := 53) dX1_multiplyLeads_12 (by decide) (by omega) (by omega) (fun hc_12 => ?_) (fun hc_12 => ?_)
    · refine aw_ret dX1_multiplyLeads_53 rfl ?_
      obtain rfl : k = h := by omega
      exact WE.ret hw0 ⟨rfl, hzr, hoth⟩
    · exact absurd hc_12 (by omega)
  | x + 1, k, hx, V, sz, Z, P, L, hw0, hV, hzr, hoth => by
    have IH := fun k hk => @mu_loop g d ws SA D G h w res l ld ρ V0 Z0 hS hG0 hhm hwm hld hlw hres hSm hSc x k hk
    obtain ⟨-, -, ⟨hfa, hpr, hfpr⟩, hSr, hcell, hginj, hmr, hmc⟩ := id hS
    have hG := hG0.kept hS hV
    obtain ⟨hgd, hra, hla, hrow, hRS, hinj⟩ := id hG
    refine aw_iload_n dX1_multiplyLeads_7 (by rfl) ?_
    refine aw_aload_n dX1_multiplyLeads_8 (by rfl) (Or.inr ⟨_, rfl⟩) ?_
    refine aw_get fX1_28 dX1_multiplyLeads_9 (by assumption) (by rfl) ?_
    refine aw_icmp_geZ (tgt := 53) dX1_multiplyLeads_12 (by decide) (by omega) (by omega) (fun hc_12 => ?_) (fun hc_12 => ?_)
    · exact absurd hc_12 (by omega)
    · have hRk := hRS k (by omega)
      obtain ⟨hrk, hck, -⟩ := hrow _ hRk
      have hlk := hlw k (by omega)
      have hldk := hld k (by omega)
      have hgc : Z (G.ga (ρ k) (l k)) = Z0 (G.ga (ρ k) (l k)) := hoth _ (hres.2.2 _ hRk (l k) (by omega)).symm (hcell _ hRk (l k) (by omega)).2.2
      obtain ⟨np, Fp, hWp⟩ := hw0.raw hpr.1
      refine aw_aload_n dX1_multiplyLeads_15 (by rfl) (Or.inr ⟨_, rfl⟩) ?_
      refine aw_get fX1_25 dX1_multiplyLeads_16 (by assumption) (by rfl) ?_
      refine aw_aload_n dX1_multiplyLeads_19 (by rfl) (Or.inr ⟨_, rfl⟩) ?_
      refine aw_aload_n dX1_multiplyLeads_20 (by rfl) (Or.inr ⟨_, rfl⟩) ?_
      refine aw_get fX1_41 dX1_multiplyLeads_21 (by assumption) (by rfl) ?_
      refine aw_iload_n dX1_multiplyLeads_24 (by rfl) ?_
      refine aw_aaldZ (t0 := 4) (k) (by rfl) dX1_multiplyLeads_25 (by assumption) (by omega) (by omega) (by omega) ?_
      refine aw_get fX1_65 dX1_multiplyLeads_26 (by assumption) (by rfl) ?_
      refine aw_aload_n dX1_multiplyLeads_29 (by rfl) (Or.inr ⟨_, rfl⟩) ?_
      refine aw_get fX1_35 dX1_multiplyLeads_30 (by assumption) (by rfl) ?_
      refine aw_iload_n dX1_multiplyLeads_33 (by rfl) ?_
      refine aw_ialdZ (k) dX1_multiplyLeads_34 (by assumption) (by omega) (by omega) (by omega) ?_
      refine aw_aaldZ (t0 := 5) (l k) (by rfl) dX1_multiplyLeads_35 (by assumption) (hld k (by omega)) (by omega) (by omega) ?_
      refine aw_callv vX1_106 dX1_multiplyLeads_36 hWp.1 (w_product d hw0 hpr.1 hres.1 (hcell _ hRk (l k) (by omega)).1.1 hres.2.1.symm (hcell _ hRk (l k) (by omega)).2.2.symm (by rw [hzr]; exact hSm k (by omega)) (by rw [hgc]; exact hSc k (by omega)) (by rw [hzr, hgc]; exact hSm (k + 1) (by omega))) (by rfl) (by rfl) (by omega) (Nat.le_of_ble_eq_true rfl) ?_
      rintro _ V1 sz1 mc1 ms1 ⟨rfl, P1, L1, hs1⟩ -
      refine WE.stp (WSE.of hs1) ?_
      obtain ⟨hgd1, -⟩ := id (hG.kept hS hs1.2.2.1)
      obtain ⟨nr, Fr', hWr⟩ := hs1.1.raw hres.1
      refine aw_aload_n dX1_multiplyLeads_39 (by rfl) (Or.inr ⟨_, rfl⟩) ?_
      refine aw_aload_n dX1_multiplyLeads_40 (by rfl) (Or.inr ⟨_, rfl⟩) ?_
      refine aw_get fX1_25 dX1_multiplyLeads_41 (by assumption) (by rfl) ?_
      refine aw_callv vX1_109 dX1_multiplyLeads_44 hWr.1 (w_copy d hs1.1 hres.1 hpr.1 hres.2.1 (Sm.u156 (by rw [upF_self, hzr, hgc]; exact hSm (k + 1) (by omega)))) (by rfl) (by rfl) (by omega) (Nat.le_of_ble_eq_true rfl) ?_
      rintro _ V2 sz2 mc2 ms2 ⟨rfl, P2, L2, hs2⟩ -
      refine WE.stp (WSE.of hs2) ?_
      refine aw_iincZ dX1_multiplyLeads_47 (by rfl) (by decide) ?_
      refine aw_goto (tgt := 7) dX1_multiplyLeads_50 (by decide) ?_
      rw [show ((k : Int) + 1) = ((k + 1 : Nat) : Int) by omega]
      refine aw_pk [2, 0, 1] (by rfl) ?_
      exact IH (k + 1) (by omega) hs2.1 (fun a ha => (hs2.2.2.1 a ha).trans ((hs1.2.2.1 a ha).trans (hV a ha))) (by rw [upF_self, upF_self, hzr, hgc]; rfl) (fun x h1 h2 => by rw [upF_ne _ _ h1, upF_ne _ _ h2]; exact hoth x h1 h2)
theorem w_multiplyLeads (g : GX) (d : Nat) {ws : List Nat} {SA : Nat → Prop} {D : DT} {G : GG} {h w res : Nat} {l : Nat → Nat} {ld : Nat → Int} {ρ : Nat → Nat} {V0 : AH} {Z0 : Nat → Int} (hS : GSt ws SA D G) (hG0 : GD g V0 D.dk G h w ld ρ) (hhm : h ≤ G.mr) (hwm : w ≤ G.mc) (hld : ∀ i, i < h → ld i = (l i : Int)) (hlw : ∀ i, i < h → l i < w) (hres : res ∈ ws ∧ res ≠ G.pr ∧ ∀ ro, G.RS ro → ∀ j, j < G.mc → res ≠ G.ga ro j) (hSm : ∀ k, k ≤ h → Sm (Pd (fun k => AM G Z0 ρ k (l k)) k)) (hSc : ∀ k, k < h → Sm (AM G Z0 ρ k (l k))) {V : AH} {sz : Nat} {P L : Nat → Nat} (hw0 : WG g ws SA V sz Z0 P L) (hV : ∀ a, SA a → V a = V0 a) : AMet g mX1_multiplyLeads (d + 4) [.ref G.gd, .ref res] V sz (WE g ws SA E0 V sz L (fun r _ Z' => none = r ∧ Z' res = Pd (fun k => AM G Z0 ρ k (l k)) h ∧ ∀ x, x ≠ res → x ≠ G.pr → Z' x = Z0 x)) := by
  obtain ⟨nr, Fr', hWr⟩ := hw0.raw hres.1
  refine AMet.of rfl rfl (Nat.le_of_ble_eq_true rfl) ?_
  show AW g mX1_multiplyLeads (d + 4) 0 [(0, .ref G.gd), (1, .ref res)] [] V sz _
  refine aw_aload_n dX1_multiplyLeads_0 (by rfl) (Or.inr ⟨_, rfl⟩) ?_
  refine aw_lconstZ (z := 1) dX1_multiplyLeads_1 (by decide) ?_
  refine aw_callv vX1_69 dX1_multiplyLeads_2 hWr.1 (w_put d hw0 hres.1 (z := 1) (by omega)) (by rfl) (by rfl) (by omega) (Nat.le_of_ble_eq_true rfl) ?_
  rintro _ V1 sz1 mc1 ms1 ⟨rfl, P1, L1, hs1⟩ -
  refine WE.stp (WSE.of hs1) ?_
  refine aw_iconstZ dX1_multiplyLeads_5 ?_
  refine aw_istore_n dX1_multiplyLeads_6 (by decide) ?_
  refine aw_pk [2, 0, 1] (by rfl) ?_
  exact mu_loop g d hS hG0 hhm hwm hld hlw hres hSm hSc h 0 (by omega) hs1.1 (fun a ha => (hs1.2.2.1 a ha).trans (hV a ha)) (upF_self _ _ _) (fun x h1 _ => upF_ne _ _ h1)

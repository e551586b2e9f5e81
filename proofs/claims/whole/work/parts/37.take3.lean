/-! ===== Grid.takeIn, its loop ===== -/
theorem ti_76 (g : GX) (d : Nat) {ws : List Nat} {SA : Nat → Prop} {D : DT} {G : GG} {h w : Nat} {l : Nat → Nat} {Z0 : Nat → Int} {A0 : Mat} {K c : Int} (hS : GSt ws SA D G) (hhm : h < G.mr) (hwr : w < G.mr) (hwm : w ≤ G.mc) (hl : ∀ i m, i < m → m < h → l i < l m) (hL : LB A0 (h + 1) w K) (hK1 : 1 ≤ K) (hc1 : 1 ≤ c) (hT2 : Sm (2 * ((Cs K c h + 1) * 2 ^ (h + 1) * K))) {V : AH} {sz : Nat} {Z : Nat → Int} {P L : Nat → Nat} {ρ : Nat → Nat} (hw0 : WG g ws SA V sz Z P L) (hD : DKV ws SA V Z D) {ld : Nat → Int} {p lf : Nat} (hph : p ≤ h) (hld : ∀ i, i < h → ld i = (l i : Int)) (hG : GD g V D.dk G h w ld ρ) (hP1 : P1 A0 (AM G Z ρ) h w l lf p K c) (hex : p = h ∨ lf < l p) (hNF : NF G Z0 Z) : AW g mX1_takeIn (d + 6) 76 [(1, .int (iZ p)), (2, .int (iZ lf)), (0, .ref G.gd)] [] V sz (WE g ws SA (EG G) V sz L (fun r V' Z' => none = r ∧ ∃ (h' : Nat) (ld' : Nat → Int) (l' : Nat → Nat) (ρ' : Nat → Nat), GD g V' D.dk G h' w ld' ρ' ∧ (∀ i, i < h' → ld' i = (l' i : Int)) ∧ Stair (AM G Z' ρ') h' w l' ∧ SpEq A0 (h + 1) (AM G Z' ρ') h' w ∧ NF G Z0 Z' ∧ h' ≤ h + 1)) := by
  obtain ⟨-, -, -, -, -, -, hmr, hmc⟩ := id hS
  obtain ⟨hgd, hra, hla, hrow, hRS, hinj⟩ := id hG
  have hlfw := hP1.2.2.1.1
  refine aw_iload_n dX1_takeIn_76 (by rfl) ?_
  refine aw_aload_n dX1_takeIn_77 (by rfl) (Or.inr ⟨_, rfl⟩) ?_
  refine aw_get fX1_32 dX1_takeIn_78 (by assumption) (by rfl) ?_
  refine aw_icmp_geZ (tgt := 182) dX1_takeIn_81 (by decide) (by omega) (by omega) (fun hc_81 => ?_) (fun hc_81 => ?_)
  · have hno := hP1.no hK1 hc1 hl hph (by omega)
    first | exact ti_182 g d hS hhm hwr hwm hl hL hK1 hc1 hT2 hw0 hD (by rfl) hG hld hno.1 hno.2.2 (hP1.2.1.tr hno.2.1) hNF (by omega) (by omega) | exact absurd hle (by omega)
  · refine aw_aload_n dX1_takeIn_84 (by rfl) (Or.inr ⟨_, rfl⟩) ?_
    refine aw_get fX1_28 dX1_takeIn_85 (by assumption) (by rfl) ?_
    refine aw_iconstZ dX1_takeIn_88 ?_
    refine aw_iaddZ dX1_takeIn_89 ?_
    refine aw_aload_n dX1_takeIn_90 (by rfl) (Or.inr ⟨_, rfl⟩) ?_
    refine aw_get fX1_41 dX1_takeIn_91 (by assumption) (by rfl) ?_
    refine aw_alenZ (t0 := 4) (by rfl) dX1_takeIn_94 (by assumption) ?_
    refine aw_topi (y := (G.mr : Int)) rfl ?_
    refine aw_icmp_geZ (tgt := 182) dX1_takeIn_95 (by decide) (by omega) (by omega) (fun hc_95 => ?_) (fun hc_95 => ?_)
    · have hle := (hP1.ins (A' := AM G Z (insF ρ p h (ρ h))) hK1 hc1 hl hph hex (by omega) (fun i hi j => by show Z _ = Z _; rw [ins_lt hi]) (fun j => by show Z _ = Z _; rw [ins_eq]) (fun i h1 h2 j => by show Z _ = Z _; rw [ins_gt h1 h2])).1.le_w
      first | exact ti_182 g d hS hhm hwr hwm hl hL hK1 hc1 hT2 hw0 hD (by rfl) hG hld hno.1 hno.2.2 (hP1.2.1.tr hno.2.1) hNF (by omega) (by omega) | exact absurd hle (by omega)
    · refine aw_aload_n dX1_takeIn_98 (by rfl) (Or.inr ⟨_, rfl⟩) ?_
      refine aw_get fX1_41 dX1_takeIn_99 (by assumption) (by rfl) ?_
      refine aw_aload_n dX1_takeIn_102 (by rfl) (Or.inr ⟨_, rfl⟩) ?_
      refine aw_get fX1_28 dX1_takeIn_103 (by assumption) (by rfl) ?_
      refine aw_aaldZ (t0 := 4) (h) (by rfl) dX1_takeIn_106 (by assumption) (by omega) (by omega) (by omega) ?_
      refine aw_astore_n dX1_takeIn_107 (by decide) (Or.inr ⟨_, rfl⟩) ?_
      refine aw_aload_n dX1_takeIn_108 (by rfl) (Or.inr ⟨_, rfl⟩) ?_
      refine aw_get fX1_28 dX1_takeIn_109 (by assumption) (by rfl) ?_
      refine aw_istore dX1_takeIn_112 (by decide) ?_
      refine aw_pk [4, 3, 1, 2, 0] (by rfl) ?_
      have hins := hP1.ins (A' := AM G Z (insF ρ p h (ρ h))) hK1 hc1 hl hph hex (by omega) (fun i hi j => by show Z _ = Z _; rw [ins_lt hi]) (fun j => by show Z _ = Z _; rw [ins_eq]) (fun i h1 h2 j => by show Z _ = Z _; rw [ins_gt h1 h2])
      exact ti_ins g d hS hhm hph hRS (V0 := V) (fun {V'} b1 b2 b3 b4 b5 b6 => ti_158 g d hS hhm hwr hwm hl hL hK1 hc1 hT2 b1 (hD.kept (b6 _ hD.1 (fun q => by rcases q with q | q | q; exact hS.2.1.2.2.2.1 q; exact hS.2.1.2.2.2.2.1 q; exact hS.2.1.2.2.2.2.2 q)) rfl rfl rfl) hph hld b2 b3 b4 b5 hRS hinj hins.1 hins.2.2 (hP1.2.1.tr hins.2.1) hNF) (h - p) h (by omega) (by omega) hw0 hgd (by rw [shF_top]; exact hra) (by rw [shF_top]; exact hla) hrow (fun _ _ _ => rfl)
set_option maxRecDepth 20000 in
theorem ti_19 (g : GX) (d : Nat) {ws : List Nat} {SA : Nat → Prop} {D : DT} {G : GG} {h w : Nat} {l : Nat → Nat} {Z0 : Nat → Int} {A0 : Mat} {K c : Int} (hS : GSt ws SA D G) (hhm : h < G.mr) (hwr : w < G.mr) (hwm : w ≤ G.mc) (hl : ∀ i m, i < m → m < h → l i < l m) (hL : LB A0 (h + 1) w K) (hK1 : 1 ≤ K) (hc1 : 1 ≤ c) (hT2 : Sm (2 * ((Cs K c h + 1) * 2 ^ (h + 1) * K))) {ld : Nat → Int} (hld : ∀ i, i < h → ld i = (l i : Int)) : ∀ (x p : Nat), p + x = h → ∀ {V : AH} {sz : Nat} {Z : Nat → Int} {P L : Nat → Nat} {ρ : Nat → Nat} {lf : Nat}, WG g ws SA V sz Z P L → DKV ws SA V Z D → GD g V D.dk G h w ld ρ → P1 A0 (AM G Z ρ) h w l lf p K c → NF G Z0 Z → AW g mX1_takeIn (d + 6) 19 [(1, .int (iZ p)), (2, .int (iZ lf)), (0, .ref G.gd)] [] V sz (WE g ws SA (EG G) V sz L (fun r V' Z' => none = r ∧ ∃ (h' : Nat) (ld' : Nat → Int) (l' : Nat → Nat) (ρ' : Nat → Nat), GD g V' D.dk G h' w ld' ρ' ∧ (∀ i, i < h' → ld' i = (l' i : Int)) ∧ Stair (AM G Z' ρ') h' w l' ∧ SpEq A0 (h + 1) (AM G Z' ρ') h' w ∧ NF G Z0 Z' ∧ h' ≤ h + 1))
  | 0, p, hx, V, sz, Z, P, L, ρ, lf, hw0, hD, hG, hP1, hNF => by
    obtain ⟨-, -, -, -, -, -, hmr, hmc⟩ := id hS
    obtain rfl : h = p := by omega
    obtain ⟨hgd, hra, hla, hrow, hRS, hinj⟩ := id hG
    refine aw_iload_n dX1_takeIn_19 (by rfl) ?_
    refine aw_aload_n dX1_takeIn_20 (by rfl) (Or.inr ⟨_, rfl⟩) ?_
    refine aw_get fX1_28 dX1_takeIn_21 (by assumption) (by rfl) ?_
    refine aw_icmp_geZ (tgt := 76) dX1_takeIn_24 (by decide) (by omega) (by omega) (fun hc_24 => ?_) (fun hc_24 => ?_)
    · exact aw_pk [1, 2, 0] (by rfl) (ti_76 g d hS hhm hwr hwm hl hL hK1 hc1 hT2 hw0 hD (by omega) hld hG hP1 (Or.inl rfl) hNF)
    · exact absurd hc_24 (by omega)
  | x + 1, p, hx, V, sz, Z, P, L, ρ, lf, hw0, hD, hG, hP1, hNF => by
    obtain ⟨-, -, -, -, -, -, hmr, hmc⟩ := id hS
    have IH := fun p hp => @ti_19 g d ws SA D G h w l Z0 A0 K c hS hhm hwr hwm hl hL hK1 hc1 hT2 ld hld x p hp
    obtain ⟨hgd, hra, hla, hrow, hRS, hinj⟩ := id hG
    have hlfw := hP1.2.2.1.1
    have hDE : ¬ EG G D.dk := fun q => by rcases q with q | q | q; exact hS.2.1.2.2.2.1 q; exact hS.2.1.2.2.2.2.1 q; exact hS.2.1.2.2.2.2.2 q
    refine aw_iload_n dX1_takeIn_19 (by rfl) ?_
    refine aw_aload_n dX1_takeIn_20 (by rfl) (Or.inr ⟨_, rfl⟩) ?_
    refine aw_get fX1_28 dX1_takeIn_21 (by assumption) (by rfl) ?_
    refine aw_icmp_geZ (tgt := 76) dX1_takeIn_24 (by decide) (by omega) (by omega) (fun hc_24 => ?_) (fun hc_24 => ?_)
    · exact absurd hc_24 (by omega)
    · have hlp := hld p (by omega)
      have hlpw := (hP1.1 p (by omega)).1
      refine aw_aload_n dX1_takeIn_27 (by rfl) (Or.inr ⟨_, rfl⟩) ?_
      refine aw_get fX1_35 dX1_takeIn_28 (by assumption) (by rfl) ?_
      refine aw_iload_n dX1_takeIn_31 (by rfl) ?_
      refine aw_ialdZ (p) dX1_takeIn_32 (by assumption) (by omega) (by omega) (by omega) ?_
      refine aw_iload_n dX1_takeIn_33 (by rfl) ?_
      refine aw_icmp_gtZ (tgt := 76) dX1_takeIn_34 (by decide) (by omega) (by omega) (fun hc_34 => ?_) (fun hc_34 => ?_)
      · exact aw_pk [1, 2, 0] (by rfl) (ti_76 g d hS hhm hwr hwm hl hL hK1 hc1 hT2 hw0 hD (by omega) hld hG hP1 (Or.inr (by omega)) hNF)
      · refine aw_aload_n dX1_takeIn_37 (by rfl) (Or.inr ⟨_, rfl⟩) ?_
        refine aw_get fX1_35 dX1_takeIn_38 (by assumption) (by rfl) ?_
        refine aw_iload_n dX1_takeIn_41 (by rfl) ?_
        refine aw_ialdZ (p) dX1_takeIn_42 (by assumption) (by omega) (by omega) (by omega) ?_
        refine aw_iload_n dX1_takeIn_43 (by rfl) ?_
        refine aw_icmp_neZ (tgt := 70) dX1_takeIn_44 (by decide) (by omega) (by omega) (fun hc_44 => ?_) (fun hc_44 => ?_)
        · have hlt : l p < lf := by omega
          refine aw_iincZ dX1_takeIn_70 (by rfl) (by decide) ?_
          refine aw_goto (tgt := 19) dX1_takeIn_73 (by decide) ?_
          rw [show ((p : Int) + 1) = ((p + 1 : Nat) : Int) by omega]
          refine aw_pk [1, 2, 0] (by rfl) ?_
          first | exact IH (p + 1) (by omega) hs1.1 hD1 hG1 hP2 (hNF.tr hNF1) | exact IH (p + 1) (by omega) hw0 hD hG (hP1.skip hK1 hc1 hlt) hNF
        · have hpl : l p = lf := by omega
          have hTp : Sm (2 * (K * Cs K c p + (Cs K c p + 2 * K) * K)) := by
            have h1 : Cs K c (p + 1) ≤ Cs K c h := Cs.mono hK1 hc1 (by omega)
            have h2 := (yb_le (Y := Cs K c h) (K := K) (t := 0) (n := h + 1) (by have := (Cs.up hK1 hc1 h).1; omega) hK1 (by omega)).2
            rw [Int.pow_zero, Int.mul_one] at h2
            have h3 := (Cs.up hK1 hc1 (p + 1)).1
            exact Sm.of hT2 (by rw [ab_pos (by show 0 ≤ 2 * Cs K c (p + 1); omega)]; show 2 * Cs K c (p + 1) ≤ _; omega)
          refine aw_aload_n dX1_takeIn_47 (by rfl) (Or.inr ⟨_, rfl⟩) ?_
          refine aw_iload_n dX1_takeIn_48 (by rfl) ?_
          refine aw_iload_n dX1_takeIn_49 (by rfl) ?_
          refine aw_callv vX1_77 dX1_takeIn_50 hgd (w_clearLead g d hS (l := lf) (p := p) (b := K) (c := Cs K c p) (by omega) hhm (by omega) hwm hK1 (Cs.up hK1 hc1 p).1 hTp hw0 hD hG (by have := (hP1.1 p (by omega)).2.1; rw [hpl] at this; exact this) (fun j hj => ⟨(hP1.1 p (by omega)).2.2 j (by omega), hP1.2.2.1.2.1 j hj⟩) (fun j hj => ⟨by have := hP1.2.2.2.2.1 p (by omega) j hj; rw [if_neg (by omega)] at this; exact this, hP1.2.2.2.2.2 j hj⟩)) (by rfl) (by rfl) (by omega) (Nat.le_of_ble_eq_true rfl) ?_
          rintro _ V1 sz1 mc1 ms1 ⟨Z1, P1', L1, ⟨rfl, ρ1, hG1, hcl, hSp1, hot1, hNF1⟩, hs1⟩ -
          refine WE.stp hs1 ?_
          have hD1 := hS.dkv hD (hs1.2.2.1 _ hD.1 hDE) hNF1
          obtain ⟨hgd1, hra1, hla1, hrow1, hRS1, hinj1⟩ := id hG1
          have hrh1 := hrow1 _ (hRS1 h hhm)
          obtain ⟨hrh1a, hrh1b, -⟩ := id hrh1
          obtain ⟨lf', hFF⟩ := FF.ex (AM G Z1 ρ1 h) w
          have hP2 : P1 A0 (AM G Z1 ρ1) h w l lf' (p + 1) K c := hP1.take hK1 hc1 hpl (by omega) hcl hSp1 (fun i hi hne j hj => by show Z1 _ = Z _; rw [(hot1 i (by omega) hne (by omega)).1]; exact (hot1 i (by omega) hne (by omega)).2 j (by omega)) hFF
          refine aw_aload_n dX1_takeIn_53 (by rfl) (Or.inr ⟨_, rfl⟩) ?_
          refine aw_get fX1_41 dX1_takeIn_54 (by assumption) (by rfl) ?_
          refine aw_aload_n dX1_takeIn_57 (by rfl) (Or.inr ⟨_, rfl⟩) ?_
          refine aw_get fX1_28 dX1_takeIn_58 (by assumption) (by rfl) ?_
          refine aw_aaldZ (t0 := 4) (h) (by rfl) dX1_takeIn_61 (by assumption) (by omega) (by omega) (by omega) ?_
          refine aw_aload_n dX1_takeIn_62 (by rfl) (Or.inr ⟨_, rfl⟩) ?_
          refine aw_get fX1_32 dX1_takeIn_63 (by assumption) (by rfl) ?_
          refine aw_callv vX1_73 dX1_takeIn_66 (by assumption) (t_firstFilled d hs1.1 hrh1 (fun j hj => (hS.2.2.2.2.1 _ (hRS1 h hhm) j hj).1.1) hFF hwm) (by rfl) (by rfl) (by omega) (Nat.le_of_ble_eq_true rfl) ?_
          rintro _ _ _ _ _ ⟨rfl, rfl, rfl, rfl, rfl⟩ -
          refine q0 ?_
          refine aw_istore_n dX1_takeIn_69 (by decide) ?_
          refine aw_iincZ dX1_takeIn_70 (by rfl) (by decide) ?_
          refine aw_goto (tgt := 19) dX1_takeIn_73 (by decide) ?_
          rw [show ((p : Int) + 1) = ((p + 1 : Nat) : Int) by omega]
          refine aw_pk [1, 2, 0] (by rfl) ?_
          first | exact IH (p + 1) (by omega) hs1.1 hD1 hG1 hP2 (hNF.tr hNF1) | exact IH (p + 1) (by omega) hw0 hD hG (hP1.skip hK1 hc1 hlt) hNF
theorem w_takeIn (g : GX) (d : Nat) {ws : List Nat} {SA : Nat → Prop} {D : DT} {G : GG} {h w : Nat} {l : Nat → Nat} {V : AH} {sz : Nat} {Z0 : Nat → Int} {P L : Nat → Nat} {ρ : Nat → Nat} {ld : Nat → Int} {K c : Int} (hS : GSt ws SA D G) (hhm : h < G.mr) (hwr : w < G.mr) (hwm : w ≤ G.mc) (hst : Stair (AM G Z0 ρ) h w l) (hL0 : LB (AM G Z0 ρ) h w K) (hL : LB (AM G Z0 ρ) (h + 1) w K) (hK1 : 1 ≤ K) (hc1 : 1 ≤ c) (hcb : ∀ j, j < w → ab (AM G Z0 ρ h j) ≤ c) (hT2 : Sm (2 * ((Cs K c h + 1) * 2 ^ (h + 1) * K))) (hld : ∀ i, i < h → ld i = (l i : Int)) (hw0 : WG g ws SA V sz Z0 P L) (hD : DKV ws SA V Z0 D) (hG : GD g V D.dk G h w ld ρ) : AMet g mX1_takeIn (d + 6) [.ref G.gd] V sz (WE g ws SA (EG G) V sz L (fun r V' Z' => none = r ∧ ∃ (h' : Nat) (ld' : Nat → Int) (l' : Nat → Nat) (ρ' : Nat → Nat), GD g V' D.dk G h' w ld' ρ' ∧ (∀ i, i < h' → ld' i = (l' i : Int)) ∧ Stair (AM G Z' ρ') h' w l' ∧ SpEq (AM G Z0 ρ) (h + 1) (AM G Z' ρ') h' w ∧ NF G Z0 Z' ∧ h' ≤ h + 1)) := by
  have hl := hst.1.2
  obtain ⟨-, -, -, -, -, -, hmr, hmc⟩ := id hS
  obtain ⟨hgd, hra, hla, hrow, hRS, hinj⟩ := id hG
  have hrh := hrow _ (hRS h hhm)
  obtain ⟨hrha, hrhb, -⟩ := id hrh
  obtain ⟨lf, hFF⟩ := FF.ex (AM G Z0 ρ h) w
  have hlfw := hFF.1
  have hP1 : P1 (AM G Z0 ρ) (AM G Z0 ρ) h w l lf 0 K c := ⟨fun i hi => ⟨(hst.1.1 i hi).1, hst.2.1 i hi, (hst.1.1 i hi).2.2⟩, SpEq.rf, hFF, fun i hi => absurd hi (by omega), fun i hi j hj => by rw [if_neg (by omega)]; exact hst.bd hL0 hi hj, hcb⟩
  refine AMet.of rfl rfl (Nat.le_of_ble_eq_true rfl) ?_
  show AW g mX1_takeIn (d + 6) 0 [(0, .ref G.gd)] [] V sz _
  refine aw_iconstZ dX1_takeIn_0 ?_
  refine aw_istore_n dX1_takeIn_1 (by decide) ?_
  refine aw_aload_n dX1_takeIn_2 (by rfl) (Or.inr ⟨_, rfl⟩) ?_
  refine aw_get fX1_41 dX1_takeIn_3 (by assumption) (by rfl) ?_
  refine aw_aload_n dX1_takeIn_6 (by rfl) (Or.inr ⟨_, rfl⟩) ?_
  refine aw_get fX1_28 dX1_takeIn_7 (by assumption) (by rfl) ?_
  refine aw_aaldZ (t0 := 4) (h) (by rfl) dX1_takeIn_10 (by assumption) (by omega) (by omega) (by omega) ?_
  refine aw_aload_n dX1_takeIn_11 (by rfl) (Or.inr ⟨_, rfl⟩) ?_
  refine aw_get fX1_32 dX1_takeIn_12 (by assumption) (by rfl) ?_
  refine aw_callv vX1_73 dX1_takeIn_15 (by assumption) (t_firstFilled d hw0 hrh (fun j hj => (hS.2.2.2.2.1 _ (hRS h hhm) j hj).1.1) hFF hwm) (by rfl) (by rfl) (by omega) (Nat.le_of_ble_eq_true rfl) ?_
  rintro _ _ _ _ _ ⟨rfl, rfl, rfl, rfl, rfl⟩ -
  refine q0 ?_
  refine aw_istore_n dX1_takeIn_18 (by decide) ?_
  refine aw_pk [1, 2, 0] (by rfl) ?_
  exact ti_19 g d hS hhm hwr hwm hl hL hK1 hc1 hT2 hld h 0 (by omega) hw0 hD hG hP1 NF.rf

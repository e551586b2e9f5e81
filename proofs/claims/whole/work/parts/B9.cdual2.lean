/-! ===== the class: dual, whole ===== -/
theorem gg_pos {S : TSt} {x : Nat} {gg : Int} (hc : 1 ≤ S.c x) (hd0 : det (S.c x) (TM (S.N x)) ≠ 0) (h0 : 0 ≤ gg) (hd : ∀ d : Int, d ∣ gg ↔ ∀ i j, i < S.c x → j < S.c x → d ∣ mnr S x i j) : 0 < gg := by
  by_cases e : gg = 0
  · exfalso
    have h1 := adj1 (n := S.c x) (TM (S.N x)) (i := 0) (j := 0) (by omega) (by omega)
    rw [if_pos rfl, Sg_zero (fun k hk => by
      obtain ⟨y, hy⟩ := cof_dvd.mpr ((hd 0).mp (by rw [e]; exact dvd_z 0) 0 k (by omega) hk)
      rw [hy, Int.zero_mul, Int.mul_zero])] at h1
    exact hd0 h1.symm
  · omega
set_option maxRecDepth 20000 in
theorem du_out (d : Nat) {g : GX} {b : Nat} {X : Nat → Prop} {S : TSt} {A : ASt} {x : Nat} {wt gg : Int} {QR : Option Value → TSt → ASt → Prop} (hx : x < 12) (hr : 0 < S.r x) (hsq : S.r x = S.c x) (hg : 0 < gg ∧ gg ≤ 24000000000000) (hdv : ∀ i j, i < S.c x → j < S.c x → gg ∣ mnr S x i j) (hKK : ∀ {V : AH} {sz : Nat} {Z : Nat → Int} {P L : Nat → Nat} {hh : Nat} {ld : Nat → Int} {l ρ : Nat → Nat}, WG g (wsB b) (SAB b X) V sz Z P L → CX g b X V Z S A → GD g V (b + 159 + 1) (GWd b) hh (S.c x) ld ρ → (∀ i, i < hh → ld i = (l i : Int)) → Stair (AM (GWd b) Z ρ) hh (S.c x) l → SpEq (DM S x gg) (S.c x) (AM (GWd b) Z ρ) hh (S.c x) → hh ≤ (S.c x) → AW g mX5_dual (d + 9) 175 [(3, .int (iZ (S.c x : Nat))), (4, .long (jZ wt)), (6, .long (jZ gg)), (0, .ref b), (2, .ref (b + 647 + 3 * x))] [] V sz (CE g b X V sz L QR)) : ∀ (f i : Nat), i + f = S.c x → ∀ {V : AH} {sz : Nat} {Z : Nat → Int} {P L : Nat → Nat} {hh : Nat} {ld : Nat → Int} {l ρ : Nat → Nat}, WG g (wsB b) (SAB b X) V sz Z P L → CX g b X V Z S A → GD g V (b + 159 + 1) (GWd b) hh (S.c x) ld ρ → (∀ i, i < hh → ld i = (l i : Int)) → Stair (AM (GWd b) Z ρ) hh (S.c x) l → SpEq (DM S x gg) i (AM (GWd b) Z ρ) hh (S.c x) → hh ≤ i → AW g mX5_dual (d + 9) 66 [(8, .int (iZ (i : Int))), (3, .int (iZ (S.c x : Nat))), (4, .long (jZ wt)), (6, .long (jZ gg)), (0, .ref b), (2, .ref (b + 647 + 3 * x))] [] V sz (CE g b X V sz L QR)
  | 0, i, hf, V, sz, Z, P, L, hh, ld, l, ρ, hw0, h, hG, hld, hst, hsp, hhi => by
    obtain rfl : i = S.c x := by omega
    obtain ⟨⟨hb, -⟩, hTb, hOk, -⟩ := id h
    obtain ⟨q1, q3, -, qx, -⟩ := hOk x hx
    have hle := hst.1.le_w
    have wgd : V (b + 159) = some (grO (b + 159 + 21) (b + 159 + 20) (b + 159 + 1) (b + 159 + 16) (b + 159 + 18) hh (S.c x)) := hG.1
    refine aw_iload dX5_dual_66 (by rfl) ?_
    refine aw_iload_n dX5_dual_68 (by rfl) ?_
    refine aw_icmp_geZ (tgt := 175) dX5_dual_69 (by decide) (by omega) (by omega) (fun hc_69 => ?_) (fun hc_69 => ?_)
    · refine aw_pk [3, 4, 6, 0, 2] (by rfl) ?_
      exact hKK hw0 h hG hld hst hsp hhi
    · exact absurd hc_69 (by omega)
  | f + 1, i, hf, V, sz, Z, P, L, hh, ld, l, ρ, hw0, h, hG, hld, hst, hsp, hhi => by
    have IH := fun i hi => @du_out d g b X S A x wt gg QR hx hr hsq hg hdv hKK f i hi
    obtain ⟨⟨hb, -⟩, hTb, hOk, -⟩ := id h
    obtain ⟨q1, q3, -, qx, -⟩ := hOk x hx
    have hle := hst.1.le_w
    have wgd : V (b + 159) = some (grO (b + 159 + 21) (b + 159 + 20) (b + 159 + 1) (b + 159 + 16) (b + 159 + 18) hh (S.c x)) := hG.1
    obtain ⟨-, wra, -, wrow, wRS, winj⟩ := id hG
    have wra : V (b + 159 + 21) = some (aQ g 4 11 (fun i => some (ρ i))) := wra
    have hRh := wRS hh (show hh < 11 by omega)
    refine aw_iload dX5_dual_66 (by rfl) ?_
    refine aw_iload_n dX5_dual_68 (by rfl) ?_
    refine aw_icmp_geZ (tgt := 175) dX5_dual_69 (by decide) (by omega) (by omega) (fun hc_69 => ?_) (fun hc_69 => ?_)
    · exact absurd hc_69 (by omega)
    · refine aw_aload_n dX5_dual_72 (by rfl) (Or.inr ⟨_, rfl⟩) ?_
      refine aw_get fX5_35 dX5_dual_73 hb (by rfl) ?_
      refine aw_get fX5_141 dX5_dual_76 wgd (by rfl) ?_
      refine aw_aload_n dX5_dual_79 (by rfl) (Or.inr ⟨_, rfl⟩) ?_
      refine aw_get fX5_35 dX5_dual_80 hb (by rfl) ?_
      refine aw_get fX5_111 dX5_dual_83 wgd (by rfl) ?_
      refine aw_aaldZ (t0 := 4) (hh) (by rfl) dX5_dual_86 wra (by omega) (by omega) (by omega) ?_
      refine aw_astore dX5_dual_87 (by decide) (Or.inr ⟨_, rfl⟩) ?_
      refine aw_iconstZ dX5_dual_89 ?_
      refine aw_istore dX5_dual_90 (by decide) ?_
      refine aw_pk [10, 9, 8, 3, 4, 6, 0, 2] (by rfl) ?_
      refine du_in d hx hr hsq hg hdv (i := i) (hh := hh) (V1 := V) (Z1 := Z) (by omega) hG (by omega) (fun {V2 sz2 Z2 P2 L2} hw2 h2' hV2 hru2 => ?_) (S.c x) 0 (by omega) hw0 h (fun _ _ _ => rfl) RU.nil
      have hb2 := h2'.1.1
      have hG2 : GD g V2 (b + 159 + 1) (GWd b) hh (S.c x) ld ρ := hG.kept2 (fun a ha => hV2 a (sab_gW ha).1 (by have := (sab_gW (X := X) ha).2; omega))
      have wgd2 : V2 (b + 159) = some (grO (b + 159 + 21) (b + 159 + 20) (b + 159 + 1) (b + 159 + 16) (b + 159 + 18) hh (S.c x)) := hG2.1
      have hot : ∀ a, a < 11 → a ≠ hh → ∀ j, j < 10 → Z2 ((GWd b).ga (ρ a) j) = Z ((GWd b).ga (ρ a) j) := fun a ha hai j hj => hru2.2 _ (fun q => q) (fun e _ he q => winj a hh ha (show hh < 11 by omega) hai ((gst_W b X).2.2.2.2.2.1 _ _ _ _ (wRS a ha) hRh hj (show e < 10 by omega) q).1)
      have hrw : ∀ j, j < S.c x → Z2 ((GWd b).ga (ρ hh) j) = DM S x gg i j := fun j hj => hru2.1 j (Nat.zero_le _) hj
      have hst1 : Stair (AM (GWd b) Z2 ρ) hh (S.c x) l := hst.cong (fun a ha j hj => hot a (by omega) (by omega) j (by omega))
      have hsp1 : SpEq (DM S x gg) i (AM (GWd b) Z2 ρ) hh (S.c x) := hsp.tr (SpEq.cong (fun a ha j hj => (hot a (by omega) (by omega) j (by omega)).symm))
      have hsp2 : SpEq (DM S x gg) (i + 1) (AM (GWd b) Z2 ρ) (hh + 1) (S.c x) := hsp1.push (fun _ _ _ _ => rfl) (fun _ _ _ _ => rfl) (fun j hj => (hrw j hj).symm)
      have hTb1 : ∀ k j, k < i + 1 → j < S.c x → ab (DM S x gg k j) ≤ CBd := fun k j hk hj => Int.le_trans (dm_ab hg.1 (hdv k j (by omega) hj) (mnr_R q3 qx (by omega) hj)) cb_24
      refine aw_aload_n dX5_dual_162 (by rfl) (Or.inr ⟨_, rfl⟩) ?_
      refine aw_get fX5_35 dX5_dual_163 hb2 (by rfl) ?_
      refine aw_callv vX5_200 dX5_dual_166 wgd2 (w_takeIn g (d + 2) (D := DG (b + 159)) (G := GWd b) (gso_W b X) (show hh < 11 by omega) (show S.c x < 11 by omega) (show S.c x ≤ 10 by omega) hst1 ((LB.mono0 (n := i + 1) cbd_pos hTb1 (by omega)).eq hsp1) ((LB.mono0 (n := i + 1) cbd_pos hTb1 (Nat.le_refl _)).eq hsp2) (KB.one cbd_pos) (c := CBd) cbd_pos (fun j hj => by show ab (Z2 _) ≤ _; rw [hrw j hj]; exact hTb1 i j (by omega) hj) (sm_dg (by omega) (by omega)) hld hw2 h2'.2.2.2.1.2.1 hG2) (by rfl) (by rfl) (by omega) (Nat.le_of_ble_eq_true rfl) ?_
      rintro _ V3 sz3 mc3 ms3 ⟨Z3, P3, L3, ⟨rfl, h3, ld3, l3, ρ3, hG3, hld3, hst3, hsp3, hNF3, hh3⟩, hs3⟩ -
      refine WE.stp (hs3.weak (fun a q => by have := eg_W q; exact ⟨by omega, by omega⟩)) ?_
      have hc3 : Chg b X (b + 159) (b + 423) V2 Z2 V3 Z3 := chg_g (by omega) (by omega) (fun a ha => by omega) hs3 hNF3
      have h3' := h2'.wide rfl rfl hc3 ⟨h3, _, ld3, ρ3, hG3⟩
      refine aw_iincZ dX5_dual_169 (by rfl) (by decide) ?_
      refine aw_goto (tgt := 66) dX5_dual_172 (by decide) ?_
      rw [show ((i : Int) + 1) = ((i + 1 : Nat) : Int) by omega]
      refine aw_pk [8, 3, 4, 6, 0, 2] (by rfl) ?_
      exact IH (i + 1) (by omega) hs3.1 h3' hG3 hld3 hst3 (hsp2.tr hsp3) (by omega)
theorem sm_kct : ∀ w : Fin 6, ((KB w CBd).natAbs : Int) < 2147483648 ^ 150 := by decide +kernel
theorem sm_kbc {w : Nat} {x : Int} (hw : w < 6) (h : ab x ≤ KB w CBd) : Sm x := by
  have h1 : ab (KB w CBd) < 2147483648 ^ 150 := sm_kct ⟨w, hw⟩
  have h2 : ab (KB w CBd) = KB w CBd := ab_pos (by have := KB.one (w := w) (b := CBd) cbd_pos; omega)
  show ab x < 2147483648 ^ 150
  generalize (2147483648 : Int) ^ 150 = B at *
  omega
set_option maxRecDepth 20000 in
theorem c_dual {g : GX} {b : Nat} {X : Nat → Prop} {V : AH} {sz : Nat} {Z : Nat → Int} {S : TSt} {A : ASt} (d : Nat) {t : Int} {P L : Nat → Nat} (hw0 : WG g (wsB b) (SAB b X) V sz Z P L) (h : CX g b X V Z S A) (ht : R32 t) : AMet g mX5_dual (d + 9) [.ref b, .int (iZ t)] V sz (CE g b X V sz L (OneR S A t (-1) (DuaR S A))) := by
  obtain ⟨⟨hb, hb1⟩, hTb, hOk, -⟩ := id h
  obtain ⟨v, hv⟩ := FindV.ex S b t
  rcases hv with ⟨n, hn, rfl, hr, rfl⟩ | ⟨hno, rfl⟩
  · obtain ⟨hr5, hc5, -, qx, -⟩ := hOk n hn
    obtain ⟨x1, x2, x3⟩ := id (hTb n hn)
    have hdr := det_R hc5 qx
    have hdr2 : -9223372036854775808 < det (S.c n) (TM (S.N n)) ∧ det (S.c n) (TM (S.N n)) < 9223372036854775808 := by unfold ab at hdr; omega
    by_cases hsq : S.r n = S.c n
    · by_cases hd0 : det (S.c n) (TM (S.N n)) = 0
      · skip
        refine AMet.of rfl rfl (Nat.le_of_ble_eq_true rfl) ?_
        show AW g mX5_dual (d + 9) 0 [(0, .ref b), (1, .int (iZ n))] [] V sz _
        refine aw_aload_n dX5_dual_0 (by rfl) (Or.inr ⟨_, rfl⟩) ?_
        refine aw_iload_n dX5_dual_1 (by rfl) ?_
        refine aw_callv vX5_72 dX5_dual_2 hb (t_find (d + 7) h ht (Or.inl ⟨n, hn, rfl, hr, rfl⟩)) (by rfl) (by rfl) (by omega) (Nat.le_of_ble_eq_true rfl) ?_
        rintro _ _ _ _ _ ⟨rfl, rfl, rfl, rfl, rfl⟩ -
        refine q0 ?_
        refine aw_astore_n dX5_dual_5 (by decide) (Or.inr ⟨_, rfl⟩) ?_
        refine aw_aload_n dX5_dual_6 (by rfl) (Or.inr ⟨_, rfl⟩) ?_
        refine aw_ifnonnull_r (tgt := 12) dX5_dual_7 (by decide) ?_
        refine aw_aload_n dX5_dual_12 (by rfl) (Or.inr ⟨_, rfl⟩) ?_
        refine aw_get fX5_96 dX5_dual_13 x1 (by rfl) ?_
        refine aw_aload_n dX5_dual_16 (by rfl) (Or.inr ⟨_, rfl⟩) ?_
        refine aw_get fX5_79 dX5_dual_17 x1 (by rfl) ?_
        refine aw_icmp_eqZ (tgt := 25) dX5_dual_20 (by decide) (by omega) (by omega) (fun hc_20 => ?_) (fun hc_20 => ?_)
        · refine aw_aload_n dX5_dual_25 (by rfl) (Or.inr ⟨_, rfl⟩) ?_
          refine aw_get fX5_96 dX5_dual_26 x1 (by rfl) ?_
          refine aw_istore_n dX5_dual_29 (by decide) ?_
          refine aw_aload_n dX5_dual_30 (by rfl) (Or.inr ⟨_, rfl⟩) ?_
          refine aw_aload_n dX5_dual_31 (by rfl) (Or.inr ⟨_, rfl⟩) ?_
          refine aw_iconstZ dX5_dual_32 ?_
          refine aw_iconstZ dX5_dual_33 ?_
          refine aw_callv vX5_155 dX5_dual_34 hb (t_minorF (d + 7) h hn hr) (by rfl) (by rfl) (by omega) (Nat.le_of_ble_eq_true rfl) ?_
          rintro _ _ _ _ _ ⟨F1, rfl, rfl, rfl, rfl, rfl⟩ -
          refine q0 ?_
          refine WE.stp0 (WSE.sto hw0 (sab_t (show b + 645 ≤ b + 646 ∧ b + 646 < b + 683 by omega)) (⟨by omega, by omega⟩ : EB b (b + 646))) ?_
          have hw1 := hw0.sto (e := aJz g 32 F1) (sab_t (b := b) (X := X) (show b + 645 ≤ b + 646 ∧ b + 646 < b + 683 by omega))
          have hcx1 := h.mw (F := F1)
          have hb1' := hcx1.1.1
          refine aw_lstore dX5_dual_37 (by decide) ?_
          refine aw_lload dX5_dual_39 (by rfl) ?_
          refine aw_lconstZ (z := 0) dX5_dual_41 (by decide) ?_
          refine aw_lcmpZ dX5_dual_42 (by omega) (by omega) ?_
          refine aw_if_neZ (tgt := 48) dX5_dual_43 (by decide) (by unfold cmpZ; split <;> (try split) <;> omega) (fun hc_43 => ?_) (fun hc_43 => ?_)
          · exact absurd (cmpZ_eq.mpr hd0) hc_43
          · refine aw_iconstZ dX5_dual_46 ?_
            refine aw_iret dX5_dual_47 rfl (by rfl) ?_
            exact WE.ret hw1 ⟨S, A, hcx1, rfl, Or.inl ⟨n, hn, rfl, hr, Or.inl ⟨fun z => z.2 hd0, rfl, rfl⟩⟩⟩
        · exact absurd (show (S.r n : Int) = (S.c n : Int) by omega) hc_20
      · skip
        refine AMet.of rfl rfl (Nat.le_of_ble_eq_true rfl) ?_
        show AW g mX5_dual (d + 9) 0 [(0, .ref b), (1, .int (iZ n))] [] V sz _
        refine aw_aload_n dX5_dual_0 (by rfl) (Or.inr ⟨_, rfl⟩) ?_
        refine aw_iload_n dX5_dual_1 (by rfl) ?_
        refine aw_callv vX5_72 dX5_dual_2 hb (t_find (d + 7) h ht (Or.inl ⟨n, hn, rfl, hr, rfl⟩)) (by rfl) (by rfl) (by omega) (Nat.le_of_ble_eq_true rfl) ?_
        rintro _ _ _ _ _ ⟨rfl, rfl, rfl, rfl, rfl⟩ -
        refine q0 ?_
        refine aw_astore_n dX5_dual_5 (by decide) (Or.inr ⟨_, rfl⟩) ?_
        refine aw_aload_n dX5_dual_6 (by rfl) (Or.inr ⟨_, rfl⟩) ?_
        refine aw_ifnonnull_r (tgt := 12) dX5_dual_7 (by decide) ?_
        refine aw_aload_n dX5_dual_12 (by rfl) (Or.inr ⟨_, rfl⟩) ?_
        refine aw_get fX5_96 dX5_dual_13 x1 (by rfl) ?_
        refine aw_aload_n dX5_dual_16 (by rfl) (Or.inr ⟨_, rfl⟩) ?_
        refine aw_get fX5_79 dX5_dual_17 x1 (by rfl) ?_
        refine aw_icmp_eqZ (tgt := 25) dX5_dual_20 (by decide) (by omega) (by omega) (fun hc_20 => ?_) (fun hc_20 => ?_)
        · refine aw_aload_n dX5_dual_25 (by rfl) (Or.inr ⟨_, rfl⟩) ?_
          refine aw_get fX5_96 dX5_dual_26 x1 (by rfl) ?_
          refine aw_topi (y := ((S.c n : Nat) : Int)) (by rw [hsq]) ?_
          refine aw_istore_n dX5_dual_29 (by decide) ?_
          refine aw_aload_n dX5_dual_30 (by rfl) (Or.inr ⟨_, rfl⟩) ?_
          refine aw_aload_n dX5_dual_31 (by rfl) (Or.inr ⟨_, rfl⟩) ?_
          refine aw_iconstZ dX5_dual_32 ?_
          refine aw_iconstZ dX5_dual_33 ?_
          refine aw_callv vX5_155 dX5_dual_34 hb (t_minorF (d + 7) h hn hr) (by rfl) (by rfl) (by omega) (Nat.le_of_ble_eq_true rfl) ?_
          rintro _ _ _ _ _ ⟨F1, rfl, rfl, rfl, rfl, rfl⟩ -
          refine q0 ?_
          refine WE.stp0 (WSE.sto hw0 (sab_t (show b + 645 ≤ b + 646 ∧ b + 646 < b + 683 by omega)) (⟨by omega, by omega⟩ : EB b (b + 646))) ?_
          have hw1 := hw0.sto (e := aJz g 32 F1) (sab_t (b := b) (X := X) (show b + 645 ≤ b + 646 ∧ b + 646 < b + 683 by omega))
          have hcx1 := h.mw (F := F1)
          have hb1' := hcx1.1.1
          refine aw_lstore dX5_dual_37 (by decide) ?_
          refine aw_lload dX5_dual_39 (by rfl) ?_
          refine aw_lconstZ (z := 0) dX5_dual_41 (by decide) ?_
          refine aw_lcmpZ dX5_dual_42 (by omega) (by omega) ?_
          refine aw_if_neZ (tgt := 48) dX5_dual_43 (by decide) (by unfold cmpZ; split <;> (try split) <;> omega) (fun hc_43 => ?_) (fun hc_43 => ?_)
          · refine aw_aload_n dX5_dual_48 (by rfl) (Or.inr ⟨_, rfl⟩) ?_
            refine aw_aload_n dX5_dual_49 (by rfl) (Or.inr ⟨_, rfl⟩) ?_
            refine aw_callv vX5_220 dX5_dual_50 hb1' (t_shared g (d + 6) hcx1 hn hr hsq) (by rfl) (by rfl) (by omega) (Nat.le_of_ble_eq_true rfl) ?_
            rintro _ _ _ _ _ ⟨F2, gg, rfl, hgb, hgd, rfl, rfl, rfl, rfl⟩ -
            refine q0 ?_
            refine WE.stp0 (WSE.sto hw1 (sab_t (show b + 645 ≤ b + 646 ∧ b + 646 < b + 683 by omega)) (⟨by omega, by omega⟩ : EB b (b + 646))) ?_
            have hw2 := hw1.sto (e := aJz g 32 F2) (sab_t (b := b) (X := X) (show b + 645 ≤ b + 646 ∧ b + 646 < b + 683 by omega))
            have hcx2 := hcx1.mw (F := F2)
            have hb2 := hcx2.1.1
            have hg0 := gg_pos (by omega) hd0 hgb.1 hgd
            have hdv := (hgd gg).mp ⟨1, by rw [Int.mul_one]⟩
            generalize AHu (AHu V (b + 646) (aJz g 32 F1)) (b + 646) (aJz g 32 F2) = V2 at *
            obtain ⟨h0, w0, ld0, ρ0, hG0⟩ := hcx2.2.2.2.2.2.2.1
            have hgd0 : V2 (b + 159) = _ := hG0.1
            refine aw_lstore dX5_dual_53 (by decide) ?_
            refine aw_aload_n dX5_dual_55 (by rfl) (Or.inr ⟨_, rfl⟩) ?_
            refine aw_get fX5_35 dX5_dual_56 hb2 (by rfl) ?_
            refine aw_iload_n dX5_dual_59 (by rfl) ?_
            refine aw_callv vX5_203 dX5_dual_60 hgd0 (t_gbegin g (d + 8) (w' := S.c n) hG0) (by rfl) (by rfl) (by omega) (Nat.le_of_ble_eq_true rfl) ?_
            rintro _ _ _ _ _ ⟨rfl, rfl, rfl, rfl, rfl⟩ -
            refine q0 ?_
            refine WE.stp0 (WSE.sto hw2 (sab_gW (Or.inl rfl)).1 (⟨by show b ≤ b + 159; omega, by show b + 159 < b + 683; omega⟩ : EB b ((GWd b).gd))) ?_
            have hw3 := hw2.sto (e := grO (GWd b).ra (GWd b).la ((GWd b).gd + 1) (GWd b).fa (GWd b).pr (0 : Nat) (S.c n)) (sab_gW (b := b) (X := X) (Or.inl rfl)).1
            have hG3 := hG0.begin (D := DG (b + 159)) (gso_W b X) 0 (S.c n)
            have hV3 : ∀ a, a ≠ b + 159 → AHu V2 (GWd b).gd (grO (GWd b).ra (GWd b).la ((GWd b).gd + 1) (GWd b).fa (GWd b).pr (0 : Nat) (S.c n)) a = V2 a := fun a ha => AHu_ne ha
            have hcx3 := hcx2.wide (V' := AHu V2 (GWd b).gd (grO (GWd b).ra (GWd b).la ((GWd b).gd + 1) (GWd b).fa (GWd b).pr (0 : Nat) (S.c n))) (Z' := Z) rfl rfl ⟨fun a _ hn => hV3 a (by omega), fun _ _ => rfl⟩ ⟨0, _, ld0, ρ0, hG3⟩
            refine aw_iconstZ dX5_dual_63 ?_
            refine aw_istore dX5_dual_64 (by decide) ?_
            refine aw_pk [8, 3, 4, 6, 0, 2] (by rfl) ?_
            refine du_out d hn hr hsq ⟨hg0, hgb.2⟩ hdv (fun {V4 sz4 Z4 P4 L4 h4 ld4 l4 ρ4} hw4 hcx4 hG4 hld4 hst4 hsp4 hhi4 => ?_) (S.c n) 0 (by omega) hw3 hcx3 hG3 (l := fun _ => 0) (fun i hi => absurd hi (by omega)) Stair.nil SpEq.nil (Nat.le_refl _)
            have hrk := dm_rank hd0 (fun i j hi hj => cof_dvd.mpr (hdv i j hi hj)) hg0 hst4.1 hsp4
            obtain rfl : h4 = S.c n := hrk
            have hb4 := hcx4.1.1
            obtain ⟨ldT, ρT, hGT, -⟩ := id hcx4.2.2.2.2.1
            have hAo := hcx4.2.2.2.2.2.1
            have hsm4 : ∀ i j, i < S.c n → j < S.c n → Sm (AM (GWd b) Z4 ρ4 i j) := fun i j hi hj => by
              have hB : ∀ k j, k < S.c n → j < S.c n → ab (DM S n gg k j) ≤ CBd := fun k j hk hj => Int.le_trans (dm_ab hg0 (hdv k j hk hj) (mnr_R hc5 qx hk hj)) cb_24
              have h6 := hst4.bd ((lb_of cbd_pos hB).eq hsp4) hi hj
              exact sm_kbc (by omega) h6
            have hab0 := ab0 (det (S.c n) (TM (S.N n)))
            have hq1 : 0 ≤ ab (det (S.c n) (TM (S.N n))) / gg := Int.ediv_nonneg hab0 (by omega)
            have hq2 : ab (det (S.c n) (TM (S.N n))) / gg ≤ ab (det (S.c n) (TM (S.N n))) := Int.ediv_le_self _ hab0
            refine aw_aload_n dX5_dual_175 (by rfl) (Or.inr ⟨_, rfl⟩) ?_
            refine aw_lload dX5_dual_176 (by rfl) ?_
            refine aw_lconstZ (z := 0) dX5_dual_178 (by decide) ?_
            refine aw_lcmpZ dX5_dual_179 (by omega) (by omega) ?_
            refine aw_if_leZ (tgt := 194) dX5_dual_180 (by decide) (by unfold cmpZ; split <;> (try split) <;> omega) (fun hc_180 => ?_) (fun hc_180 => ?_)
            · have hcm := cmpZ_le.mp hc_180
              exact absurd hcm (by omega)
            · refine aw_lload dX5_dual_183 (by rfl) ?_
              refine aw_absl sX5_224.2.2 dX5_dual_185 (by omega) (by omega) (Nat.le_of_ble_eq_true rfl) ?_
              refine aw_lload dX5_dual_188 (by rfl) ?_
              refine aw_ldivZ dX5_dual_190 (by omega) (by omega) (by omega) (by omega) ?_
              refine aw_goto (tgt := 195) dX5_dual_191 (by decide) ?_
              refine aw_topl (y := ab (det (S.c n) (TM (S.N n))) / gg) (by unfold ab; exact Int.tdiv_eq_ediv_of_nonneg (by omega)) ?_
              refine aw_callv vX5_230 dX5_dual_195 hb4 (t_tellDual d (D := ab (det (S.c n) (TM (S.N n))) / gg) hcx4 hGT hAo hG4 (by omega) (by omega) hsm4 hw4) (by rfl) (by rfl) (by omega) (Nat.le_of_ble_eq_true rfl) ?_
              rintro _ V5 sz5 mc5 ms5 ⟨Z5, P5, L5, ⟨S5, A5, hcx5, e5, rfl, hAI⟩, hs5⟩ -
              refine WE.stp hs5 ?_
              rw [e5] at hcx5
              refine aw_iload_n dX5_dual_198 (by rfl) ?_
              refine aw_iconstZ dX5_dual_199 ?_
              refine aw_iaddZ dX5_dual_200 ?_
              refine aw_iret dX5_dual_201 rfl (by rfl) ?_
              exact WE.ret hs5.1 ⟨S, A5, hcx5, rfl, Or.inl ⟨n, hn, rfl, hr, Or.inr ⟨hsq, hd0, gg, l4, _, hg0, fun d => (hgd d).trans ⟨fun z i j hi hj => cof_dvd.mpr (z i j hi hj), fun z i j hi hj => cof_dvd.mp (z i j hi hj)⟩, hst4, hsp4, rfl, hAI⟩⟩⟩
          · have hcm := cmpZ_eq.mp hc_43
            exact absurd (cmpZ_eq.mp hc_43) hd0
        · exact absurd (show (S.r n : Int) = (S.c n : Int) by omega) hc_20
    · skip
      refine AMet.of rfl rfl (Nat.le_of_ble_eq_true rfl) ?_
      show AW g mX5_dual (d + 9) 0 [(0, .ref b), (1, .int (iZ n))] [] V sz _
      refine aw_aload_n dX5_dual_0 (by rfl) (Or.inr ⟨_, rfl⟩) ?_
      refine aw_iload_n dX5_dual_1 (by rfl) ?_
      refine aw_callv vX5_72 dX5_dual_2 hb (t_find (d + 7) h ht (Or.inl ⟨n, hn, rfl, hr, rfl⟩)) (by rfl) (by rfl) (by omega) (Nat.le_of_ble_eq_true rfl) ?_
      rintro _ _ _ _ _ ⟨rfl, rfl, rfl, rfl, rfl⟩ -
      refine q0 ?_
      refine aw_astore_n dX5_dual_5 (by decide) (Or.inr ⟨_, rfl⟩) ?_
      refine aw_aload_n dX5_dual_6 (by rfl) (Or.inr ⟨_, rfl⟩) ?_
      refine aw_ifnonnull_r (tgt := 12) dX5_dual_7 (by decide) ?_
      refine aw_aload_n dX5_dual_12 (by rfl) (Or.inr ⟨_, rfl⟩) ?_
      refine aw_get fX5_96 dX5_dual_13 x1 (by rfl) ?_
      refine aw_aload_n dX5_dual_16 (by rfl) (Or.inr ⟨_, rfl⟩) ?_
      refine aw_get fX5_79 dX5_dual_17 x1 (by rfl) ?_
      refine aw_icmp_eqZ (tgt := 25) dX5_dual_20 (by decide) (by omega) (by omega) (fun hc_20 => ?_) (fun hc_20 => ?_)
      · exact absurd hc_20 (by omega)
      · refine aw_iconstZ dX5_dual_23 ?_
        refine aw_iret dX5_dual_24 rfl (by rfl) ?_
        exact WE.ret hw0 ⟨S, A, h, rfl, Or.inl ⟨n, hn, rfl, hr, Or.inl ⟨fun z => hsq z.1, rfl, rfl⟩⟩⟩
  · skip
    refine AMet.of rfl rfl (Nat.le_of_ble_eq_true rfl) ?_
    show AW g mX5_dual (d + 9) 0 [(0, .ref b), (1, .int (iZ t))] [] V sz _
    refine aw_aload_n dX5_dual_0 (by rfl) (Or.inr ⟨_, rfl⟩) ?_
    refine aw_iload_n dX5_dual_1 (by rfl) ?_
    refine aw_callv vX5_72 dX5_dual_2 hb (t_find (d + 7) h ht (Or.inr ⟨hno, rfl⟩)) (by rfl) (by rfl) (by omega) (Nat.le_of_ble_eq_true rfl) ?_
    rintro _ _ _ _ _ ⟨rfl, rfl, rfl, rfl, rfl⟩ -
    refine q0 ?_
    refine aw_astore_n dX5_dual_5 (by decide) (Or.inl rfl) ?_
    refine aw_aload_n dX5_dual_6 (by rfl) (Or.inl rfl) ?_
    refine aw_ifnonnull_n dX5_dual_7 ?_
    refine aw_iconstZ dX5_dual_10 ?_
    refine aw_iret dX5_dual_11 rfl (by rfl) ?_
    exact WE.ret hw0 ⟨S, A, h, rfl, Or.inr ⟨hno, rfl, rfl⟩⟩

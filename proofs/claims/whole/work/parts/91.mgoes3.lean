/-! ===== the reference: goesIn, whole ===== -/
theorem gm_row {b w h s : Nat} {z : Nat → Int} (hs : s < h) : GMx b w h z s = fun t => z (b + w * s + t) := by
  funext t
  unfold GMx
  rw [if_pos hs]
theorem gm_com {b w h : Nat} {z : Nat → Int} : GMx b w h z h = fun t => z (150 + t) := by
  funext t
  unfold GMx
  rw [if_neg (by omega)]
theorem go_S (g : GX) (d : Nat) {V0 : AH} {mo sz h : Nat} {rk kn ar ac X : Int} {zs RW β : Nat → Int} {l : Nat → Nat} (hra0 : V0 (mo + 6) = some (aIz g 11 RW)) (hh : h ≤ 9) (hl : ∀ i, i < h → RW i = (l i : Int)) (hg : GPr (GMx 0 15 h zs) h 15 5 l β X) (hSm : ∀ t, t < 15 → SmM (cw (fun k => GMx 0 15 h zs k (l k)) X h * β t)) : ∀ (y j : Nat), j + y = 5 → ∀ {V : AH} {z' : Nat → Int} {s : Nat}, V mo = some (moO mo rk kn ar ac) → MN g mo V z' → Frm zs z' (InG 0 15 h) → (∀ a, ¬ EN mo a → V a = V0 a) → GIv (GMx 0 15 h zs) (GMx 0 15 h z') h 15 l β X s j → AW g mX6_goesIn (d + 4) 3 [(7, .int (iZ j)), (0, .ref mo), (1, .int (iZ 0)), (2, .int (iZ 15)), (3, .int (iZ 15)), (4, .int (iZ 5)), (5, .ref (mo + 6)), (6, .int (iZ h))] [] V sz (VX V0 sz (ER mo (mo + 6)) (GoR g mo (mo + 6) zs 0 15 h 5 l β X RW))
  | 0, j, hy, V, z', s, hmo, hM, hF, hV, k => by
    refine aw_iload dX6_goesIn_3 (by rfl) ?_
    refine aw_iload dX6_goesIn_5 (by rfl) ?_
    refine aw_icmp_geZ (tgt := 228) dX6_goesIn_7 (by decide) (by omega) (by omega) (fun hc_7 => ?_) (fun hc_7 => ?_)
    · refine aw_iconstZ dX6_goesIn_228 ?_
      refine aw_iret dX6_goesIn_229 rfl (by rfl) ?_
      obtain rfl : j = 5 := by omega
      exact ⟨rfl, rfl, rfl, fun a ha => hV a (fun z => ha (Or.inl z)), z', hM, hF, Or.inl ⟨rfl, (hV _ (by unfold EN; omega)).trans hra0, k.fin hg⟩⟩
    · exact absurd (by omega) hc_7
  | y + 1, j, hy, V, z', s, hmo, hM, hF, hV, k => by
    have IH := fun j hj => @go_S g d V0 mo sz h rk kn ar ac X zs RW β l hra0 hh hl hg hSm y j hj
    have hsh : s ≤ h := k.2.1
    have hra : V (mo + 6) = some (aIz g 11 RW) := (hV _ (by unfold EN; omega)).trans hra0
    obtain ⟨D, LN, SG, O1, O2, hA, h0⟩ := id hM
    obtain ⟨_, _, _, hsg, _, _, _⟩ := id (h0 (150 + j) (by omega))
    have hSm' : ∀ s, s ≤ h → ∀ t, t < 15 → SmM (cw (fun k => GMx 0 15 h zs k (l k)) X s * β t) := fun s hs t ht => smT (hSm t ht) (by
      have h1 := hg.cw1 hs
      have h2 := (cw_ge hg.2.2.2.1 hg.pos h (Nat.le_refl _)).2 s hs
      have h3 := hg.2.2.1 t
      rw [ab_pos (Int.mul_nonneg (by omega) (by omega))]
      exact Int.mul_le_mul_of_nonneg_right h2 (by omega))
    have INS : (s = h ∨ l s ≠ j) → z' (150 + j) ≠ 0 → AW g mX6_goesIn (d + 4) 89 [(8, .int (iZ s)), (7, .int (iZ j)), (0, .ref mo), (1, .int (iZ 0)), (2, .int (iZ 15)), (3, .int (iZ 15)), (4, .int (iZ 5)), (5, .ref (mo + 6)), (6, .int (iZ h))] [] V sz (VX V0 sz (ER mo (mo + 6)) (GoR g mo (mo + 6) zs 0 15 h 5 l β X RW)) := fun hne hrn => by
      have I111 : ∀ {V2 : AH} {z2 : Nat → Int} {ε : Int}, (ε = 1 ∨ ε = -1) → 0 < ε * z' (150 + j) → V2 mo = some (moO mo rk kn ar ac) → MN g mo V2 z2 → (∀ a, ¬ EN mo a → V2 a = V0 a) → (∀ t, t < 15 → z2 (150 + t) = ε * z' (150 + t)) → (∀ q, ¬ (150 ≤ q ∧ q < 165) → z2 q = z' q) → AW g mX6_goesIn (d + 4) 111 [(8, .int (iZ s)), (7, .int (iZ j)), (0, .ref mo), (1, .int (iZ 0)), (2, .int (iZ 15)), (3, .int (iZ 15)), (4, .int (iZ 5)), (5, .ref (mo + 6)), (6, .int (iZ h))] [] V2 sz (VX V0 sz (ER mo (mo + 6)) (GoR g mo (mo + 6) zs 0 15 h 5 l β X RW)) := fun {V2 z2 ε} hε hpos hmo2 hM2 hV2 hz2r hz2o => by
        replace hpos : 0 < ε * GMx 0 15 h z' h j := by rw [gm_com]; exact hpos
        refine aw_iload dX6_goesIn_111 (by rfl) ?_
        refine aw_istore dX6_goesIn_113 (by decide) ?_
        refine aw_pk [9, 8, 7, 0, 1, 2, 3, 4, 5, 6] (by rfl) ?_
        refine gs_S d (V0 := V0) (zs := z2) (RW := RW) hh hsh (fun i hi => by rw [hl i hi]; have := (hg.1 i hi).2.2.2.2; omega) (fun {V3 z3} hmo3 hM3 hV3 hra3 hS3 => ?_) (h - s) h (by omega) (Nat.le_refl _) hmo2 hM2 (fun a ha => hV2 a (fun z => ha (Or.inl z))) (by rw [shF_top]; exact (hV2 _ (by unfold EN; omega)).trans hra0) (fun q => by rw [if_neg (by omega)])
        refine aw_aload dX6_goesIn_179 (by rfl) (Or.inr ⟨_, rfl⟩) ?_
        refine aw_iload dX6_goesIn_181 (by rfl) ?_
        refine aw_iload dX6_goesIn_183 (by rfl) ?_
        refine aw_iastZ (s) dX6_goesIn_185 hra3 (by omega) (by omega) (by omega) ?_
        refine aw_iconstZ dX6_goesIn_186 ?_
        refine aw_istore dX6_goesIn_187 (by decide) ?_
        refine aw_pk [9, 8, 7, 0, 1, 2, 3, 4, 5, 6] (by rfl) ?_
        refine gj_S d (V0 := AHu V3 (mo + 6) (aIz g 11 (upF (shF RW s h) s (j : Int)))) (zs := z3) hh hsh (fun {V4 z4} hmo4 hM4 hV4 hC4 => ?_) 15 0 (by omega) ((AHu_ne (by omega)).trans hmo3) (hM3.kept (fun a ha => AHu_ne (by unfold EN at ha; omega))) (fun _ _ => rfl) CpZ.nil
        refine aw_iconstZ dX6_goesIn_220 ?_
        refine aw_iret dX6_goesIn_221 rfl (by rfl) ?_
        refine ⟨rfl, rfl, rfl, fun a ha => ?_, z4, hM4, fun q hq => ?_, Or.inr ⟨s, j, rfl, ?_, k.ins hg (by omega) hne hε hpos (fun i hi t ht => ?_) (fun t ht => ?_) (fun i h1 h2 t ht => ?_)⟩⟩
        · rw [hV4 a (fun z => ha (Or.inl z)), AHu_ne (fun z => ha (Or.inr z))]; exact hV3 a ha
        · unfold InG at hq
          rw [hC4 q, if_neg (by omega), hS3 q, if_neg (by omega), hz2o q (by omega)]
          exact hF q (by unfold InG; omega)
        · rw [hV4 _ (by unfold EN; omega), AHu_self, shF_ins]
        · show z4 (_ + _ * i + t) = _
          rw [hC4 _, if_neg (by omega), hS3 _, if_neg (by omega), hz2o _ (by omega), gm_row (by omega)]
        · show z4 (_ + _ * s + t) = _
          rw [hC4 _, if_pos (by omega), hS3 _, if_neg (by omega), show 150 + (0 + 15 * s + t - (0 + 15 * s)) = 150 + t by omega, hz2r t ht, gm_com]
        · show z4 (_ + _ * i + t) = _
          rw [hC4 _, if_neg (by omega), hS3 _, if_pos (by omega), hz2o _ (by omega), gm_row (by omega), show 0 + 15 * i + t - 15 = 0 + 15 * (i - 1) + t by omega]
      refine aw_aload_n dX6_goesIn_89 (by rfl) (Or.inr ⟨_, rfl⟩) ?_
      refine aw_get fX6_17 dX6_goesIn_90 hmo (by rfl) ?_
      refine aw_sipushZ dX6_goesIn_93 (by decide) ?_
      refine aw_iload dX6_goesIn_96 (by rfl) ?_
      refine aw_iaddZ dX6_goesIn_98 ?_
      refine aw_ialdZ (150 + j) dX6_goesIn_99 hA.2.2.1 (by omega) (by omega) (by omega) ?_
      refine aw_if_geZ (tgt := 111) dX6_goesIn_100 (by decide) (by rw [hsg]; exact sgn_R _) (fun hc_100 => ?_) (fun hc_100 => ?_)
      · have hs0 : 0 ≤ z' (150 + j) := by rw [hsg] at hc_100; exact Int.sign_nonneg_iff.mp hc_100
        first
        | (refine aw_pk [8, 7, 0, 1, 2, 3, 4, 5, 6] (by rfl) ?_; exact I111 (ε := 1) (Or.inl rfl) (by omega) hmo hM hV (fun t _ => by omega) (fun _ _ => rfl))
        | (refine aw_pk [8, 7, 0, 1, 2, 3, 4, 5, 6] (by rfl) ?_; exact I111 (ε := -1) (Or.inr rfl) (by omega) ((hE1 mo (by unfold EN; omega)).trans hmo) hM1 (fun a ha => (hE1 a ha).trans (hV a ha)) (fun t ht => by rw [if_pos (by omega)]; omega) (fun q hq => by rw [if_neg (by omega)]))
      · have hs0 : z' (150 + j) < 0 := by rw [hsg] at hc_100; exact Int.lt_of_not_ge (fun q => hc_100 (Int.sign_nonneg_iff.mpr q))
        refine aw_aload_n dX6_goesIn_103 (by rfl) (Or.inr ⟨_, rfl⟩) ?_
        refine aw_sipushZ dX6_goesIn_104 (by decide) ?_
        refine aw_iload_n dX6_goesIn_107 (by rfl) ?_
        refine aw_callv vX6_107 dX6_goesIn_108 hmo (m_turnsRow g (d + 3) (a := 150) (n := 15) ⟨rk, kn, ar, ac, hmo⟩ hM (by omega)) (by rfl) (by rfl) (by omega) (Nat.le_of_ble_eq_true rfl) ?_
        rintro _ V1 _ _ _ ⟨rfl, rfl, rfl, hE1, rfl, hM1⟩ -
        refine q0 ?_
        first
        | (refine aw_pk [8, 7, 0, 1, 2, 3, 4, 5, 6] (by rfl) ?_; exact I111 (ε := 1) (Or.inl rfl) (by omega) hmo hM hV (fun t _ => by omega) (fun _ _ => rfl))
        | (refine aw_pk [8, 7, 0, 1, 2, 3, 4, 5, 6] (by rfl) ?_; exact I111 (ε := -1) (Or.inr rfl) (by omega) ((hE1 mo (by unfold EN; omega)).trans hmo) hM1 (fun a ha => (hE1 a ha).trans (hV a ha)) (fun t ht => by rw [if_pos (by omega)]; omega) (fun q hq => by rw [if_neg (by omega)]))
    refine aw_iload dX6_goesIn_3 (by rfl) ?_
    refine aw_iload dX6_goesIn_5 (by rfl) ?_
    refine aw_icmp_geZ (tgt := 228) dX6_goesIn_7 (by decide) (by omega) (by omega) (fun hc_7 => ?_) (fun hc_7 => ?_)
    · exact absurd hc_7 (by omega)
    · refine aw_aload_n dX6_goesIn_10 (by rfl) (Or.inr ⟨_, rfl⟩) ?_
      refine aw_get fX6_17 dX6_goesIn_11 hmo (by rfl) ?_
      refine aw_sipushZ dX6_goesIn_14 (by decide) ?_
      refine aw_iload dX6_goesIn_17 (by rfl) ?_
      refine aw_iaddZ dX6_goesIn_19 ?_
      refine aw_ialdZ (150 + j) dX6_goesIn_20 hA.2.2.1 (by omega) (by omega) (by omega) ?_
      refine aw_if_neZ (tgt := 27) dX6_goesIn_21 (by decide) (by rw [hsg]; exact sgn_R _) (fun hc_21 => ?_) (fun hc_21 => ?_)
      · have hrn : z' (150 + j) ≠ 0 := fun q => hc_21 (by rw [hsg, q]; rfl)
        refine aw_iconstZ dX6_goesIn_27 ?_
        refine aw_istore dX6_goesIn_28 (by decide) ?_
        refine aw_pk [8, 7, 0, 1, 2, 3, 4, 5, 6] (by rfl) ?_
        refine gk_S (d + 4) (s := s) hh (by omega) hsh hra hl (fun i hi => (hg.1 i hi).2.2.2.2) k.2.2.1 (fun q => k.2.2.2.1 s (Nat.le_refl _) q) ?_ s 0 (by omega)
        refine aw_iload dX6_goesIn_53 (by rfl) ?_
        refine aw_iload dX6_goesIn_55 (by rfl) ?_
        refine aw_icmp_geZ (tgt := 89) dX6_goesIn_57 (by decide) (by omega) (by omega) (fun hc_57 => ?_) (fun hc_57 => ?_)
        · refine aw_pk [8, 7, 0, 1, 2, 3, 4, 5, 6] (by rfl) ?_
          exact INS (Or.inl (by omega)) hrn
        · refine aw_aload dX6_goesIn_60 (by rfl) (Or.inr ⟨_, rfl⟩) ?_
          refine aw_iload dX6_goesIn_62 (by rfl) ?_
          refine aw_ialdZ (s) dX6_goesIn_64 hra (by omega) (by omega) (by omega) ?_
          refine aw_iload dX6_goesIn_65 (by rfl) ?_
          refine aw_icmp_neZ (tgt := 89) dX6_goesIn_67 (by decide) (by rw [hl s (by omega)]; have := (hg.1 s (by omega)).2.2.2.2; omega) (by omega) (fun hc_67 => ?_) (fun hc_67 => ?_)
          · 
            refine aw_pk [8, 7, 0, 1, 2, 3, 4, 5, 6] (by rfl) ?_
            exact INS (Or.inr (fun q => hc_67 (by rw [hl s (by omega), q]))) hrn
          · have hls : l s = j := by rw [hl s (by omega)] at hc_67; omega
            have hpn : z' (0 + 15 * s + j) ≠ 0 := by
              have h8 := k.2.2.2.2.1 s (Nat.le_refl _) (by omega) j (by omega)
              have h9 := (hg.1 s (by omega)).1
              rw [hls, ← h8, gm_row (by omega)] at h9
              have h9' : 0 < z' (0 + 15 * s + j) := h9
              exact fun q => by omega
            refine aw_aload_n dX6_goesIn_70 (by rfl) (Or.inr ⟨_, rfl⟩) ?_
            refine aw_iload_n dX6_goesIn_71 (by rfl) ?_
            refine aw_iload_n dX6_goesIn_72 (by rfl) ?_
            refine aw_iload dX6_goesIn_73 (by rfl) ?_
            refine aw_imulZ dX6_goesIn_75 ?_
            refine aw_iaddZ dX6_goesIn_76 ?_
            refine aw_topi (y := ((0 + 15 * s : Nat) : Int)) (by omega) ?_
            refine aw_sipushZ dX6_goesIn_77 (by decide) ?_
            refine aw_topi (y := ((150 : Nat) : Int)) (by omega) ?_
            refine aw_iload_n dX6_goesIn_80 (by rfl) ?_
            refine aw_iload dX6_goesIn_81 (by rfl) ?_
            refine aw_callv vX6_110 dX6_goesIn_83 hmo (m_euclid g d (a := 0 + 15 * s) (e := 150) (n := 15) (c := j) (T := fun t => cw (fun k => GMx 0 15 h zs k (l k)) X (s + 1) * β t) ⟨rk, kn, ar, ac, hmo⟩ hM (by omega) (by omega) (by omega) (by omega) (fun t ht => hSm' (s + 1) (by omega) t ht) hpn hrn (fun t ht => by have := k.eT hg (by omega) hls ht; rw [gm_row (by omega), gm_com] at this; exact this)) (by rfl) (by rfl) (by omega) (Nat.le_of_ble_eq_true rfl) ?_
            rintro _ V1 _ _ _ ⟨rfl, rfl, rfl, hE1, rfl, z1, hM1, hF1, hz1, hp1, hb1, hU1⟩ -
            refine q0 ?_
            refine aw_goto (tgt := 222) dX6_goesIn_86 (by decide) ?_
            refine aw_iincZ dX6_goesIn_222 (by rfl) (by decide) ?_
            refine aw_goto (tgt := 3) dX6_goesIn_225 (by decide) ?_
            rw [show ((j : Int) + 1) = ((j + 1 : Nat) : Int) by omega]
            refine aw_pk [7, 0, 1, 2, 3, 4, 5, 6] (by rfl) ?_
            refine IH (j + 1) (by omega) (s := s + 1) ((hE1 mo (by unfold EN; omega)).trans hmo) hM1 (fun q hq => (hF1 q (by unfold InG at hq; unfold InE; omega)).trans (hF q hq)) (fun a ha => (hE1 a ha).trans (hV a ha)) (k.euc hg (by omega) hls (fun i hi hne t ht => ?_) ?_ ?_ ?_ (fun t ht => ?_))
            · rw [gm_row hi, gm_row hi]
              exact hF1 _ (by unfold InE; omega)
            · rw [gm_row (by omega), gm_com, gm_row (by omega), gm_com]; exact hU1
            · rw [gm_com]; exact hz1
            · rw [gm_row (by omega)]; exact hp1
            · rw [gm_row (by omega), gm_com]; exact hb1 t ht
      · have hr0 : z' (150 + j) = 0 := sgn0.mp (by rw [← hsg]; exact hc_21)
        refine aw_goto (tgt := 222) dX6_goesIn_24 (by decide) ?_
        refine aw_iincZ dX6_goesIn_222 (by rfl) (by decide) ?_
        refine aw_goto (tgt := 3) dX6_goesIn_225 (by decide) ?_
        rw [show ((j : Int) + 1) = ((j + 1 : Nat) : Int) by omega]
        refine aw_pk [7, 0, 1, 2, 3, 4, 5, 6] (by rfl) ?_
        obtain ⟨s', k'⟩ := k.skip hg (by rw [gm_com]; exact hr0)
        exact IH (j + 1) (by omega) (s := s') hmo hM hF hV k'
theorem m_goesS (g : GX) (d : Nat) {V : AH} {mo sz h : Nat} {X : Int} {zs RW β : Nat → Int} {l : Nat → Nat} (hm : moV mo V) (hM : MN g mo V zs) (hra0 : V (mo + 6) = some (aIz g 11 RW)) (hh : h ≤ 9) (hl : ∀ i, i < h → RW i = (l i : Int)) (hg : GPr (GMx 0 15 h zs) h 15 5 l β X) (hSm : ∀ t, t < 15 → SmM (cw (fun k => GMx 0 15 h zs k (l k)) X h * β t)) : AMet g mX6_goesIn (d + 4) [.ref mo, .int (iZ 0), .int (iZ 15), .int (iZ 15), .int (iZ 5), .ref (mo + 6), .int (iZ h)] V sz (VX V sz (ER mo (mo + 6)) (GoR g mo (mo + 6) zs 0 15 h 5 l β X RW)) := by
  obtain ⟨rk, kn, ar, ac, hmo⟩ := hm
  refine AMet.of rfl rfl (Nat.le_of_ble_eq_true rfl) ?_
  show AW g mX6_goesIn (d + 4) 0 [(0, .ref mo), (1, .int (iZ 0)), (2, .int (iZ 15)), (3, .int (iZ 15)), (4, .int (iZ 5)), (5, .ref (mo + 6)), (6, .int (iZ h))] [] V sz _
  refine aw_iconstZ dX6_goesIn_0 ?_
  refine aw_istore dX6_goesIn_1 (by decide) ?_
  refine aw_pk [7, 0, 1, 2, 3, 4, 5, 6] (by rfl) ?_
  exact go_S g d hra0 hh hl hg hSm 5 0 (by omega) (s := 0) hmo hM (fun _ _ => rfl) (fun _ _ => rfl) (GIv.zero hg)
theorem go_K (g : GX) (d : Nat) {V0 : AH} {mo sz h : Nat} {rk kn ar ac X : Int} {zs RW β : Nat → Int} {l : Nat → Nat} (hra0 : V0 (mo + 7) = some (aIz g 11 RW)) (hh : h ≤ 9) (hl : ∀ i, i < h → RW i = (l i : Int)) (hg : GPr (GMx 165 10 h zs) h 10 10 l β X) (hSm : ∀ t, t < 10 → SmM (cw (fun k => GMx 165 10 h zs k (l k)) X h * β t)) : ∀ (y j : Nat), j + y = 10 → ∀ {V : AH} {z' : Nat → Int} {s : Nat}, V mo = some (moO mo rk kn ar ac) → MN g mo V z' → Frm zs z' (InG 165 10 h) → (∀ a, ¬ EN mo a → V a = V0 a) → GIv (GMx 165 10 h zs) (GMx 165 10 h z') h 10 l β X s j → AW g mX6_goesIn (d + 4) 3 [(7, .int (iZ j)), (0, .ref mo), (1, .int (iZ 165)), (2, .int (iZ 10)), (3, .int (iZ 10)), (4, .int (iZ 10)), (5, .ref (mo + 7)), (6, .int (iZ h))] [] V sz (VX V0 sz (ER mo (mo + 7)) (GoR g mo (mo + 7) zs 165 10 h 10 l β X RW))
  | 0, j, hy, V, z', s, hmo, hM, hF, hV, k => by
    refine aw_iload dX6_goesIn_3 (by rfl) ?_
    refine aw_iload dX6_goesIn_5 (by rfl) ?_
    refine aw_icmp_geZ (tgt := 228) dX6_goesIn_7 (by decide) (by omega) (by omega) (fun hc_7 => ?_) (fun hc_7 => ?_)
    · refine aw_iconstZ dX6_goesIn_228 ?_
      refine aw_iret dX6_goesIn_229 rfl (by rfl) ?_
      obtain rfl : j = 10 := by omega
      exact ⟨rfl, rfl, rfl, fun a ha => hV a (fun z => ha (Or.inl z)), z', hM, hF, Or.inl ⟨rfl, (hV _ (by unfold EN; omega)).trans hra0, k.fin hg⟩⟩
    · exact absurd (by omega) hc_7
  | y + 1, j, hy, V, z', s, hmo, hM, hF, hV, k => by
    have IH := fun j hj => @go_K g d V0 mo sz h rk kn ar ac X zs RW β l hra0 hh hl hg hSm y j hj
    have hsh : s ≤ h := k.2.1
    have hra : V (mo + 7) = some (aIz g 11 RW) := (hV _ (by unfold EN; omega)).trans hra0
    obtain ⟨D, LN, SG, O1, O2, hA, h0⟩ := id hM
    obtain ⟨_, _, _, hsg, _, _, _⟩ := id (h0 (150 + j) (by omega))
    have hSm' : ∀ s, s ≤ h → ∀ t, t < 10 → SmM (cw (fun k => GMx 165 10 h zs k (l k)) X s * β t) := fun s hs t ht => smT (hSm t ht) (by
      have h1 := hg.cw1 hs
      have h2 := (cw_ge hg.2.2.2.1 hg.pos h (Nat.le_refl _)).2 s hs
      have h3 := hg.2.2.1 t
      rw [ab_pos (Int.mul_nonneg (by omega) (by omega))]
      exact Int.mul_le_mul_of_nonneg_right h2 (by omega))
    have INS : (s = h ∨ l s ≠ j) → z' (150 + j) ≠ 0 → AW g mX6_goesIn (d + 4) 89 [(8, .int (iZ s)), (7, .int (iZ j)), (0, .ref mo), (1, .int (iZ 165)), (2, .int (iZ 10)), (3, .int (iZ 10)), (4, .int (iZ 10)), (5, .ref (mo + 7)), (6, .int (iZ h))] [] V sz (VX V0 sz (ER mo (mo + 7)) (GoR g mo (mo + 7) zs 165 10 h 10 l β X RW)) := fun hne hrn => by
      have I111 : ∀ {V2 : AH} {z2 : Nat → Int} {ε : Int}, (ε = 1 ∨ ε = -1) → 0 < ε * z' (150 + j) → V2 mo = some (moO mo rk kn ar ac) → MN g mo V2 z2 → (∀ a, ¬ EN mo a → V2 a = V0 a) → (∀ t, t < 10 → z2 (150 + t) = ε * z' (150 + t)) → (∀ q, ¬ (150 ≤ q ∧ q < 165) → z2 q = z' q) → AW g mX6_goesIn (d + 4) 111 [(8, .int (iZ s)), (7, .int (iZ j)), (0, .ref mo), (1, .int (iZ 165)), (2, .int (iZ 10)), (3, .int (iZ 10)), (4, .int (iZ 10)), (5, .ref (mo + 7)), (6, .int (iZ h))] [] V2 sz (VX V0 sz (ER mo (mo + 7)) (GoR g mo (mo + 7) zs 165 10 h 10 l β X RW)) := fun {V2 z2 ε} hε hpos hmo2 hM2 hV2 hz2r hz2o => by
        replace hpos : 0 < ε * GMx 165 10 h z' h j := by rw [gm_com]; exact hpos
        refine aw_iload dX6_goesIn_111 (by rfl) ?_
        refine aw_istore dX6_goesIn_113 (by decide) ?_
        refine aw_pk [9, 8, 7, 0, 1, 2, 3, 4, 5, 6] (by rfl) ?_
        refine gs_K d (V0 := V0) (zs := z2) (RW := RW) hh hsh (fun i hi => by rw [hl i hi]; have := (hg.1 i hi).2.2.2.2; omega) (fun {V3 z3} hmo3 hM3 hV3 hra3 hS3 => ?_) (h - s) h (by omega) (Nat.le_refl _) hmo2 hM2 (fun a ha => hV2 a (fun z => ha (Or.inl z))) (by rw [shF_top]; exact (hV2 _ (by unfold EN; omega)).trans hra0) (fun q => by rw [if_neg (by omega)])
        refine aw_aload dX6_goesIn_179 (by rfl) (Or.inr ⟨_, rfl⟩) ?_
        refine aw_iload dX6_goesIn_181 (by rfl) ?_
        refine aw_iload dX6_goesIn_183 (by rfl) ?_
        refine aw_iastZ (s) dX6_goesIn_185 hra3 (by omega) (by omega) (by omega) ?_
        refine aw_iconstZ dX6_goesIn_186 ?_
        refine aw_istore dX6_goesIn_187 (by decide) ?_
        refine aw_pk [9, 8, 7, 0, 1, 2, 3, 4, 5, 6] (by rfl) ?_
        refine gj_K d (V0 := AHu V3 (mo + 7) (aIz g 11 (upF (shF RW s h) s (j : Int)))) (zs := z3) hh hsh (fun {V4 z4} hmo4 hM4 hV4 hC4 => ?_) 10 0 (by omega) ((AHu_ne (by omega)).trans hmo3) (hM3.kept (fun a ha => AHu_ne (by unfold EN at ha; omega))) (fun _ _ => rfl) CpZ.nil
        refine aw_iconstZ dX6_goesIn_220 ?_
        refine aw_iret dX6_goesIn_221 rfl (by rfl) ?_
        refine ⟨rfl, rfl, rfl, fun a ha => ?_, z4, hM4, fun q hq => ?_, Or.inr ⟨s, j, rfl, ?_, k.ins hg (by omega) hne hε hpos (fun i hi t ht => ?_) (fun t ht => ?_) (fun i h1 h2 t ht => ?_)⟩⟩
        · rw [hV4 a (fun z => ha (Or.inl z)), AHu_ne (fun z => ha (Or.inr z))]; exact hV3 a ha
        · unfold InG at hq
          rw [hC4 q, if_neg (by omega), hS3 q, if_neg (by omega), hz2o q (by omega)]
          exact hF q (by unfold InG; omega)
        · rw [hV4 _ (by unfold EN; omega), AHu_self, shF_ins]
        · show z4 (_ + _ * i + t) = _
          rw [hC4 _, if_neg (by omega), hS3 _, if_neg (by omega), hz2o _ (by omega), gm_row (by omega)]
        · show z4 (_ + _ * s + t) = _
          rw [hC4 _, if_pos (by omega), hS3 _, if_neg (by omega), show 150 + (165 + 10 * s + t - (165 + 10 * s)) = 150 + t by omega, hz2r t ht, gm_com]
        · show z4 (_ + _ * i + t) = _
          rw [hC4 _, if_neg (by omega), hS3 _, if_pos (by omega), hz2o _ (by omega), gm_row (by omega), show 165 + 10 * i + t - 10 = 165 + 10 * (i - 1) + t by omega]
      refine aw_aload_n dX6_goesIn_89 (by rfl) (Or.inr ⟨_, rfl⟩) ?_
      refine aw_get fX6_17 dX6_goesIn_90 hmo (by rfl) ?_
      refine aw_sipushZ dX6_goesIn_93 (by decide) ?_
      refine aw_iload dX6_goesIn_96 (by rfl) ?_
      refine aw_iaddZ dX6_goesIn_98 ?_
      refine aw_ialdZ (150 + j) dX6_goesIn_99 hA.2.2.1 (by omega) (by omega) (by omega) ?_
      refine aw_if_geZ (tgt := 111) dX6_goesIn_100 (by decide) (by rw [hsg]; exact sgn_R _) (fun hc_100 => ?_) (fun hc_100 => ?_)
      · have hs0 : 0 ≤ z' (150 + j) := by rw [hsg] at hc_100; exact Int.sign_nonneg_iff.mp hc_100
        first
        | (refine aw_pk [8, 7, 0, 1, 2, 3, 4, 5, 6] (by rfl) ?_; exact I111 (ε := 1) (Or.inl rfl) (by omega) hmo hM hV (fun t _ => by omega) (fun _ _ => rfl))
        | (refine aw_pk [8, 7, 0, 1, 2, 3, 4, 5, 6] (by rfl) ?_; exact I111 (ε := -1) (Or.inr rfl) (by omega) ((hE1 mo (by unfold EN; omega)).trans hmo) hM1 (fun a ha => (hE1 a ha).trans (hV a ha)) (fun t ht => by rw [if_pos (by omega)]; omega) (fun q hq => by rw [if_neg (by omega)]))
      · have hs0 : z' (150 + j) < 0 := by rw [hsg] at hc_100; exact Int.lt_of_not_ge (fun q => hc_100 (Int.sign_nonneg_iff.mpr q))
        refine aw_aload_n dX6_goesIn_103 (by rfl) (Or.inr ⟨_, rfl⟩) ?_
        refine aw_sipushZ dX6_goesIn_104 (by decide) ?_
        refine aw_iload_n dX6_goesIn_107 (by rfl) ?_
        refine aw_callv vX6_107 dX6_goesIn_108 hmo (m_turnsRow g (d + 3) (a := 150) (n := 10) ⟨rk, kn, ar, ac, hmo⟩ hM (by omega)) (by rfl) (by rfl) (by omega) (Nat.le_of_ble_eq_true rfl) ?_
        rintro _ V1 _ _ _ ⟨rfl, rfl, rfl, hE1, rfl, hM1⟩ -
        refine q0 ?_
        first
        | (refine aw_pk [8, 7, 0, 1, 2, 3, 4, 5, 6] (by rfl) ?_; exact I111 (ε := 1) (Or.inl rfl) (by omega) hmo hM hV (fun t _ => by omega) (fun _ _ => rfl))
        | (refine aw_pk [8, 7, 0, 1, 2, 3, 4, 5, 6] (by rfl) ?_; exact I111 (ε := -1) (Or.inr rfl) (by omega) ((hE1 mo (by unfold EN; omega)).trans hmo) hM1 (fun a ha => (hE1 a ha).trans (hV a ha)) (fun t ht => by rw [if_pos (by omega)]; omega) (fun q hq => by rw [if_neg (by omega)]))
    refine aw_iload dX6_goesIn_3 (by rfl) ?_
    refine aw_iload dX6_goesIn_5 (by rfl) ?_
    refine aw_icmp_geZ (tgt := 228) dX6_goesIn_7 (by decide) (by omega) (by omega) (fun hc_7 => ?_) (fun hc_7 => ?_)
    · exact absurd hc_7 (by omega)
    · refine aw_aload_n dX6_goesIn_10 (by rfl) (Or.inr ⟨_, rfl⟩) ?_
      refine aw_get fX6_17 dX6_goesIn_11 hmo (by rfl) ?_
      refine aw_sipushZ dX6_goesIn_14 (by decide) ?_
      refine aw_iload dX6_goesIn_17 (by rfl) ?_
      refine aw_iaddZ dX6_goesIn_19 ?_
      refine aw_ialdZ (150 + j) dX6_goesIn_20 hA.2.2.1 (by omega) (by omega) (by omega) ?_
      refine aw_if_neZ (tgt := 27) dX6_goesIn_21 (by decide) (by rw [hsg]; exact sgn_R _) (fun hc_21 => ?_) (fun hc_21 => ?_)
      · have hrn : z' (150 + j) ≠ 0 := fun q => hc_21 (by rw [hsg, q]; rfl)
        refine aw_iconstZ dX6_goesIn_27 ?_
        refine aw_istore dX6_goesIn_28 (by decide) ?_
        refine aw_pk [8, 7, 0, 1, 2, 3, 4, 5, 6] (by rfl) ?_
        refine gk_K (d + 4) (s := s) hh (by omega) hsh hra hl (fun i hi => (hg.1 i hi).2.2.2.2) k.2.2.1 (fun q => k.2.2.2.1 s (Nat.le_refl _) q) ?_ s 0 (by omega)
        refine aw_iload dX6_goesIn_53 (by rfl) ?_
        refine aw_iload dX6_goesIn_55 (by rfl) ?_
        refine aw_icmp_geZ (tgt := 89) dX6_goesIn_57 (by decide) (by omega) (by omega) (fun hc_57 => ?_) (fun hc_57 => ?_)
        · refine aw_pk [8, 7, 0, 1, 2, 3, 4, 5, 6] (by rfl) ?_
          exact INS (Or.inl (by omega)) hrn
        · refine aw_aload dX6_goesIn_60 (by rfl) (Or.inr ⟨_, rfl⟩) ?_
          refine aw_iload dX6_goesIn_62 (by rfl) ?_
          refine aw_ialdZ (s) dX6_goesIn_64 hra (by omega) (by omega) (by omega) ?_
          refine aw_iload dX6_goesIn_65 (by rfl) ?_
          refine aw_icmp_neZ (tgt := 89) dX6_goesIn_67 (by decide) (by rw [hl s (by omega)]; have := (hg.1 s (by omega)).2.2.2.2; omega) (by omega) (fun hc_67 => ?_) (fun hc_67 => ?_)
          · 
            refine aw_pk [8, 7, 0, 1, 2, 3, 4, 5, 6] (by rfl) ?_
            exact INS (Or.inr (fun q => hc_67 (by rw [hl s (by omega), q]))) hrn
          · have hls : l s = j := by rw [hl s (by omega)] at hc_67; omega
            have hpn : z' (165 + 10 * s + j) ≠ 0 := by
              have h8 := k.2.2.2.2.1 s (Nat.le_refl _) (by omega) j (by omega)
              have h9 := (hg.1 s (by omega)).1
              rw [hls, ← h8, gm_row (by omega)] at h9
              have h9' : 0 < z' (165 + 10 * s + j) := h9
              exact fun q => by omega
            refine aw_aload_n dX6_goesIn_70 (by rfl) (Or.inr ⟨_, rfl⟩) ?_
            refine aw_iload_n dX6_goesIn_71 (by rfl) ?_
            refine aw_iload_n dX6_goesIn_72 (by rfl) ?_
            refine aw_iload dX6_goesIn_73 (by rfl) ?_
            refine aw_imulZ dX6_goesIn_75 ?_
            refine aw_iaddZ dX6_goesIn_76 ?_
            refine aw_topi (y := ((165 + 10 * s : Nat) : Int)) (by omega) ?_
            refine aw_sipushZ dX6_goesIn_77 (by decide) ?_
            refine aw_topi (y := ((150 : Nat) : Int)) (by omega) ?_
            refine aw_iload_n dX6_goesIn_80 (by rfl) ?_
            refine aw_iload dX6_goesIn_81 (by rfl) ?_
            refine aw_callv vX6_110 dX6_goesIn_83 hmo (m_euclid g d (a := 165 + 10 * s) (e := 150) (n := 10) (c := j) (T := fun t => cw (fun k => GMx 165 10 h zs k (l k)) X (s + 1) * β t) ⟨rk, kn, ar, ac, hmo⟩ hM (by omega) (by omega) (by omega) (by omega) (fun t ht => hSm' (s + 1) (by omega) t ht) hpn hrn (fun t ht => by have := k.eT hg (by omega) hls ht; rw [gm_row (by omega), gm_com] at this; exact this)) (by rfl) (by rfl) (by omega) (Nat.le_of_ble_eq_true rfl) ?_
            rintro _ V1 _ _ _ ⟨rfl, rfl, rfl, hE1, rfl, z1, hM1, hF1, hz1, hp1, hb1, hU1⟩ -
            refine q0 ?_
            refine aw_goto (tgt := 222) dX6_goesIn_86 (by decide) ?_
            refine aw_iincZ dX6_goesIn_222 (by rfl) (by decide) ?_
            refine aw_goto (tgt := 3) dX6_goesIn_225 (by decide) ?_
            rw [show ((j : Int) + 1) = ((j + 1 : Nat) : Int) by omega]
            refine aw_pk [7, 0, 1, 2, 3, 4, 5, 6] (by rfl) ?_
            refine IH (j + 1) (by omega) (s := s + 1) ((hE1 mo (by unfold EN; omega)).trans hmo) hM1 (fun q hq => (hF1 q (by unfold InG at hq; unfold InE; omega)).trans (hF q hq)) (fun a ha => (hE1 a ha).trans (hV a ha)) (k.euc hg (by omega) hls (fun i hi hne t ht => ?_) ?_ ?_ ?_ (fun t ht => ?_))
            · rw [gm_row hi, gm_row hi]
              exact hF1 _ (by unfold InE; omega)
            · rw [gm_row (by omega), gm_com, gm_row (by omega), gm_com]; exact hU1
            · rw [gm_com]; exact hz1
            · rw [gm_row (by omega)]; exact hp1
            · rw [gm_row (by omega), gm_com]; exact hb1 t ht
      · have hr0 : z' (150 + j) = 0 := sgn0.mp (by rw [← hsg]; exact hc_21)
        refine aw_goto (tgt := 222) dX6_goesIn_24 (by decide) ?_
        refine aw_iincZ dX6_goesIn_222 (by rfl) (by decide) ?_
        refine aw_goto (tgt := 3) dX6_goesIn_225 (by decide) ?_
        rw [show ((j : Int) + 1) = ((j + 1 : Nat) : Int) by omega]
        refine aw_pk [7, 0, 1, 2, 3, 4, 5, 6] (by rfl) ?_
        obtain ⟨s', k'⟩ := k.skip hg (by rw [gm_com]; exact hr0)
        exact IH (j + 1) (by omega) (s := s') hmo hM hF hV k'
theorem m_goesK (g : GX) (d : Nat) {V : AH} {mo sz h : Nat} {X : Int} {zs RW β : Nat → Int} {l : Nat → Nat} (hm : moV mo V) (hM : MN g mo V zs) (hra0 : V (mo + 7) = some (aIz g 11 RW)) (hh : h ≤ 9) (hl : ∀ i, i < h → RW i = (l i : Int)) (hg : GPr (GMx 165 10 h zs) h 10 10 l β X) (hSm : ∀ t, t < 10 → SmM (cw (fun k => GMx 165 10 h zs k (l k)) X h * β t)) : AMet g mX6_goesIn (d + 4) [.ref mo, .int (iZ 165), .int (iZ 10), .int (iZ 10), .int (iZ 10), .ref (mo + 7), .int (iZ h)] V sz (VX V sz (ER mo (mo + 7)) (GoR g mo (mo + 7) zs 165 10 h 10 l β X RW)) := by
  obtain ⟨rk, kn, ar, ac, hmo⟩ := hm
  refine AMet.of rfl rfl (Nat.le_of_ble_eq_true rfl) ?_
  show AW g mX6_goesIn (d + 4) 0 [(0, .ref mo), (1, .int (iZ 165)), (2, .int (iZ 10)), (3, .int (iZ 10)), (4, .int (iZ 10)), (5, .ref (mo + 7)), (6, .int (iZ h))] [] V sz _
  refine aw_iconstZ dX6_goesIn_0 ?_
  refine aw_istore dX6_goesIn_1 (by decide) ?_
  refine aw_pk [7, 0, 1, 2, 3, 4, 5, 6] (by rfl) ?_
  exact go_K g d hra0 hh hl hg hSm 10 0 (by omega) (s := 0) hmo hM (fun _ _ => rfl) (fun _ _ => rfl) (GIv.zero hg)

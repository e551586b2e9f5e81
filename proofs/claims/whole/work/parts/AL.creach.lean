/-! ===== the class: reach ===== -/
theorem sm_small {x : Int} (h : ab x ≤ 1000000) : Sm x := by
  unfold Sm
  unfold ab at h
  have : (1000000 : Int) < 2147483648 ^ 150 := by decide +kernel
  omega
/-- the wide Grid's STAIR stays when the asked row is read -/
theorem GSp.read {g : GX} {b : Nat} {X : Nat → Prop} {V V1 : AH} {Z Z1 : Nat → Int} {M : Mat} {n w h1 c : Nat} {ld : Nat → Int} {l ρ : Nat → Nat} (hg : GSp g b V Z (GWd b) M n w h1 ld l ρ) (hw : w ≤ 10) (hh : h1 ≤ 11) (hkv : ∀ a, SAB b X a → V1 a = V a) (hot : ∀ q, (∀ j, j < c → q ≠ b + 613 + 2 * j) → Z1 q = Z q) : GSp g b V1 Z1 (GWd b) M n w h1 ld l ρ ∧ ∀ a j, a < h1 → j < w → AM (GWd b) Z1 ρ a j = AM (GWd b) Z ρ a j := by
  have hAm : ∀ a j, a < h1 → j < w → AM (GWd b) Z1 ρ a j = AM (GWd b) Z ρ a j := fun a j ha hj => hot _ (fun e he q2 => by
    have h3 := gl_cell (t0 := b + 159) (mr := 11) (mc := 10) (hg.1.2.2.2.2.1 a (show a < 11 by omega)) (show j < 10 by omega)
    have h4 : (GWd b).ga (ρ a) j = (GL (b + 159) 11 10).ga (ρ a) j := rfl
    have q2 : (GWd b).ga (ρ a) j = b + 613 + 2 * e := q2
    omega)
  exact ⟨⟨hg.1.kept2 (fun a ha => hkv a (sab_gW ha).1), hg.2.1, hg.2.2.1.cong (fun a ha j hj => hAm a j ha hj), hg.2.2.2.tr (SpEq.cong (fun a ha j hj => (hAm a j ha hj).symm))⟩, hAm⟩
abbrev mX5_reach : MI := (yX5_reach, cX5_reach, 7, (some FieldType.int), noX)
theorem dX5_reach_0 : decode cX5_reach 0 = .ok (.aload_n 0, 1) := by decide +kernel
theorem dX5_reach_1 : decode cX5_reach 1 = .ok (.iload_n 1, 1) := by decide +kernel
theorem dX5_reach_2 : decode cX5_reach 2 = .ok (.invokevirtual 72, 3) := by decide +kernel
theorem dX5_reach_5 : decode cX5_reach 5 = .ok (.astore 4, 2) := by decide +kernel
theorem dX5_reach_7 : decode cX5_reach 7 = .ok (.aload_n 0, 1) := by decide +kernel
theorem dX5_reach_8 : decode cX5_reach 8 = .ok (.iload_n 2, 1) := by decide +kernel
theorem dX5_reach_9 : decode cX5_reach 9 = .ok (.invokevirtual 72, 3) := by decide +kernel
theorem dX5_reach_12 : decode cX5_reach 12 = .ok (.astore 5, 2) := by decide +kernel
theorem dX5_reach_14 : decode cX5_reach 14 = .ok (.aload 4, 2) := by decide +kernel
theorem dX5_reach_16 : decode cX5_reach 16 = .ok (.aload 5, 2) := by decide +kernel
theorem dX5_reach_18 : decode cX5_reach 18 = .ok (.invokestatic 137, 3) := by decide +kernel
theorem dX5_reach_21 : decode cX5_reach 21 = .ok (.ifCond .eq 12, 3) := by decide +kernel
theorem dX5_reach_24 : decode cX5_reach 24 = .ok (.aload 5, 2) := by decide +kernel
theorem dX5_reach_26 : decode cX5_reach 26 = .ok (.iload_n 3, 1) := by decide +kernel
theorem dX5_reach_27 : decode cX5_reach 27 = .ok (.invokevirtual 76, 3) := by decide +kernel
theorem dX5_reach_30 : decode cX5_reach 30 = .ok (.ifCond .ne 5, 3) := by decide +kernel
theorem dX5_reach_33 : decode cX5_reach 33 = .ok (.iconst (-1), 1) := by decide +kernel
theorem dX5_reach_34 : decode cX5_reach 34 = .ok (.ireturn, 1) := by decide +kernel
theorem dX5_reach_35 : decode cX5_reach 35 = .ok (.aload_n 0, 1) := by decide +kernel
theorem dX5_reach_36 : decode cX5_reach 36 = .ok (.getfield 35, 3) := by decide +kernel
theorem dX5_reach_39 : decode cX5_reach 39 = .ok (.aload 4, 2) := by decide +kernel
theorem dX5_reach_41 : decode cX5_reach 41 = .ok (.invokevirtual 103, 3) := by decide +kernel
theorem dX5_reach_44 : decode cX5_reach 44 = .ok (.aload_n 0, 1) := by decide +kernel
theorem dX5_reach_45 : decode cX5_reach 45 = .ok (.getfield 49, 3) := by decide +kernel
theorem dX5_reach_48 : decode cX5_reach 48 = .ok (.aload 5, 2) := by decide +kernel
theorem dX5_reach_50 : decode cX5_reach 50 = .ok (.iload_n 3, 1) := by decide +kernel
theorem dX5_reach_51 : decode cX5_reach 51 = .ok (.iconst 1, 1) := by decide +kernel
theorem dX5_reach_52 : decode cX5_reach 52 = .ok (.invokevirtual 144, 3) := by decide +kernel
theorem dX5_reach_55 : decode cX5_reach 55 = .ok (.aload_n 0, 1) := by decide +kernel
theorem dX5_reach_56 : decode cX5_reach 56 = .ok (.getfield 35, 3) := by decide +kernel
theorem dX5_reach_59 : decode cX5_reach 59 = .ok (.aload_n 0, 1) := by decide +kernel
theorem dX5_reach_60 : decode cX5_reach 60 = .ok (.getfield 49, 3) := by decide +kernel
theorem dX5_reach_63 : decode cX5_reach 63 = .ok (.iconst 0, 1) := by decide +kernel
theorem dX5_reach_64 : decode cX5_reach 64 = .ok (.aload_n 0, 1) := by decide +kernel
theorem dX5_reach_65 : decode cX5_reach 65 = .ok (.getfield 35, 3) := by decide +kernel
theorem dX5_reach_68 : decode cX5_reach 68 = .ok (.getfield 111, 3) := by decide +kernel
theorem dX5_reach_71 : decode cX5_reach 71 = .ok (.aload_n 0, 1) := by decide +kernel
theorem dX5_reach_72 : decode cX5_reach 72 = .ok (.getfield 53, 3) := by decide +kernel
theorem dX5_reach_75 : decode cX5_reach 75 = .ok (.invokevirtual 185, 3) := by decide +kernel
theorem dX5_reach_78 : decode cX5_reach 78 = .ok (.ifCond .ne 5, 3) := by decide +kernel
theorem dX5_reach_81 : decode cX5_reach 81 = .ok (.iconst 0, 1) := by decide +kernel
theorem dX5_reach_82 : decode cX5_reach 82 = .ok (.ireturn, 1) := by decide +kernel
theorem dX5_reach_83 : decode cX5_reach 83 = .ok (.iconst 0, 1) := by decide +kernel
theorem dX5_reach_84 : decode cX5_reach 84 = .ok (.istore 6, 2) := by decide +kernel
theorem dX5_reach_86 : decode cX5_reach 86 = .ok (.iload 6, 2) := by decide +kernel
theorem dX5_reach_88 : decode cX5_reach 88 = .ok (.aload_n 0, 1) := by decide +kernel
theorem dX5_reach_89 : decode cX5_reach 89 = .ok (.getfield 35, 3) := by decide +kernel
theorem dX5_reach_92 : decode cX5_reach 92 = .ok (.getfield 111, 3) := by decide +kernel
theorem dX5_reach_95 : decode cX5_reach 95 = .ok (.if_icmp .ge 37, 3) := by decide +kernel
theorem dX5_reach_98 : decode cX5_reach 98 = .ok (.aload_n 0, 1) := by decide +kernel
theorem dX5_reach_99 : decode cX5_reach 99 = .ok (.getfield 27, 3) := by decide +kernel
theorem dX5_reach_102 : decode cX5_reach 102 = .ok (.getfield 141, 3) := by decide +kernel
theorem dX5_reach_105 : decode cX5_reach 105 = .ok (.iconst 0, 1) := by decide +kernel
theorem dX5_reach_106 : decode cX5_reach 106 = .ok (.aaload, 1) := by decide +kernel
theorem dX5_reach_107 : decode cX5_reach 107 = .ok (.getfield 151, 3) := by decide +kernel
theorem dX5_reach_110 : decode cX5_reach 110 = .ok (.iload 6, 2) := by decide +kernel
theorem dX5_reach_112 : decode cX5_reach 112 = .ok (.aaload, 1) := by decide +kernel
theorem dX5_reach_113 : decode cX5_reach 113 = .ok (.aload_n 0, 1) := by decide +kernel
theorem dX5_reach_114 : decode cX5_reach 114 = .ok (.getfield 53, 3) := by decide +kernel
theorem dX5_reach_117 : decode cX5_reach 117 = .ok (.getfield 151, 3) := by decide +kernel
theorem dX5_reach_120 : decode cX5_reach 120 = .ok (.iload 6, 2) := by decide +kernel
theorem dX5_reach_122 : decode cX5_reach 122 = .ok (.aaload, 1) := by decide +kernel
theorem dX5_reach_123 : decode cX5_reach 123 = .ok (.invokevirtual 192, 3) := by decide +kernel
theorem dX5_reach_126 : decode cX5_reach 126 = .ok (.iinc 6 1, 3) := by decide +kernel
theorem dX5_reach_129 : decode cX5_reach 129 = .ok (.goto (-43), 3) := by decide +kernel
theorem dX5_reach_132 : decode cX5_reach 132 = .ok (.aload_n 0, 1) := by decide +kernel
theorem dX5_reach_133 : decode cX5_reach 133 = .ok (.aload_n 0, 1) := by decide +kernel
theorem dX5_reach_134 : decode cX5_reach 134 = .ok (.getfield 35, 3) := by decide +kernel
theorem dX5_reach_137 : decode cX5_reach 137 = .ok (.getfield 111, 3) := by decide +kernel
theorem dX5_reach_140 : decode cX5_reach 140 = .ok (.ifCond .le 7, 3) := by decide +kernel
theorem dX5_reach_143 : decode cX5_reach 143 = .ok (.iconst 1, 1) := by decide +kernel
theorem dX5_reach_144 : decode cX5_reach 144 = .ok (.goto 4, 3) := by decide +kernel
theorem dX5_reach_147 : decode cX5_reach 147 = .ok (.iconst 0, 1) := by decide +kernel
theorem dX5_reach_148 : decode cX5_reach 148 = .ok (.aload_n 0, 1) := by decide +kernel
theorem dX5_reach_149 : decode cX5_reach 149 = .ok (.getfield 35, 3) := by decide +kernel
theorem dX5_reach_152 : decode cX5_reach 152 = .ok (.getfield 111, 3) := by decide +kernel
theorem dX5_reach_155 : decode cX5_reach 155 = .ok (.invokevirtual 148, 3) := by decide +kernel
theorem dX5_reach_158 : decode cX5_reach 158 = .ok (.iconst 1, 1) := by decide +kernel
theorem dX5_reach_159 : decode cX5_reach 159 = .ok (.ireturn, 1) := by decide +kernel
set_option maxRecDepth 20000 in
theorem rcc (d : Nat) {g : GX} {b : Nat} {X : Nat → Prop} {Z0 : Nat → Int} {S : TSt} {A : ASt} {V0 : AH} {h1 w hT wT : Nat} {ldT : Nat → Int} {ρT : Nat → Nat} {qq : Nat → Int} {QR : Option Value → TSt → ASt → Prop} (h0 : CX g b X V0 Z0 S A) (hT0 : GD g V0 (b + 17 + 1) (GT b) hT wT ldT ρT) (hW0 : V0 (b + 159) = some (grO (b + 159 + 21) (b + 159 + 20) (b + 159 + 1) (b + 159 + 16) (b + 159 + 18) h1 w)) (hh : h1 ≤ 5) (hq : ∀ t, t < h1 → Z0 (b + 635 + 2 * t) = qq t ∧ Sm (qq t)) (hKK : ∀ {V : AH} {sz : Nat} {Z : Nat → Int} {P L : Nat → Nat}, WG g (wsB b) (SAB b X) V sz Z P L → (∀ a, SAB b X a → V a = V0 a) → TCp b ρT Z0 (fun _ j => qq j) 1 h1 0 (h1) Z → AW g mX5_reach (d + 4) 132 [(6, .int (iZ h1)), (0, .ref b)] [] V sz (CE g b X V sz L QR)) : ∀ (f k : Nat), k + f = h1 → ∀ {V : AH} {sz : Nat} {Z : Nat → Int} {P L : Nat → Nat}, WG g (wsB b) (SAB b X) V sz Z P L → (∀ a, SAB b X a → V a = V0 a) → TCp b ρT Z0 (fun _ j => qq j) 1 h1 0 (k) Z → AW g mX5_reach (d + 4) 86 [(6, .int (iZ k)), (0, .ref b)] [] V sz (CE g b X V sz L QR)
  | 0, k, hf, V, sz, Z, P, L, hw0, hV, hTC => by
    obtain rfl : k = h1 := by omega
    have hb := (hV b (Or.inl rfl)).trans h0.1.1
    have hGT : GD g V (b + 17 + 1) (GT b) hT wT ldT ρT := hT0.kept2 (fun a ha => hV a (sab_gT ha).1)
    obtain ⟨tgd, tra, -, trow, tRS, tinj⟩ := id hGT
    have tgd : V (b + 17) = some (grO (b + 17 + 21) (b + 17 + 20) (b + 17 + 1) (b + 17 + 16) (b + 17 + 18) hT wT) := tgd
    have tra : V (b + 17 + 21) = some (aQ g 4 10 (fun i => some (ρT i))) := tra
    have wgd := (hV (b + 159) (sab_gW (Or.inl rfl)).1).trans hW0
    obtain ⟨fr1, fr2, -⟩ := h0.2.2.2.2.2.2.2.2.2.2.1
    have fr1 := (hV (b + 633) (sab_r (by omega))).trans fr1
    have fr2 := (hV (b + 634) (sab_r (by omega))).trans fr2
    refine aw_iload dX5_reach_86 (by rfl) ?_
    refine aw_aload_n dX5_reach_88 (by rfl) (Or.inr ⟨_, rfl⟩) ?_
    refine aw_get fX5_35 dX5_reach_89 hb (by rfl) ?_
    refine aw_get fX5_111 dX5_reach_92 wgd (by rfl) ?_
    refine aw_icmp_geZ (tgt := 132) dX5_reach_95 (by decide) (by omega) (by omega) (fun hc_95 => ?_) (fun hc_95 => ?_)
    · exact hKK hw0 hV hTC
    · exact absurd hc_95 (by omega)
  | f + 1, k, hf, V, sz, Z, P, L, hw0, hV, hTC => by
    have IH := fun k hk => @rcc d g b X Z0 S A V0 h1 w hT wT ldT ρT qq QR h0 hT0 hW0 hh hq hKK f k hk
    have hb := (hV b (Or.inl rfl)).trans h0.1.1
    have hGT : GD g V (b + 17 + 1) (GT b) hT wT ldT ρT := hT0.kept2 (fun a ha => hV a (sab_gT ha).1)
    obtain ⟨tgd, tra, -, trow, tRS, tinj⟩ := id hGT
    have tgd : V (b + 17) = some (grO (b + 17 + 21) (b + 17 + 20) (b + 17 + 1) (b + 17 + 16) (b + 17 + 18) hT wT) := tgd
    have tra : V (b + 17 + 21) = some (aQ g 4 10 (fun i => some (ρT i))) := tra
    have wgd := (hV (b + 159) (sab_gW (Or.inl rfl)).1).trans hW0
    obtain ⟨fr1, fr2, -⟩ := h0.2.2.2.2.2.2.2.2.2.2.1
    have fr1 := (hV (b + 633) (sab_r (by omega))).trans fr1
    have fr2 := (hV (b + 634) (sab_r (by omega))).trans fr2
    obtain ⟨tr1, tr2, -⟩ := trow _ (tRS 0 (show 0 < 10 by omega))
    have tr2 : V ((GT b).ka (ρT 0)) = some (aQ g 5 5 (fun j => some ((GT b).ga (ρT 0) j))) := tr2
    have hct := ((gst_T b X).2.2.2.2.1 _ (tRS 0 (show 0 < 10 by omega)) k (show k < 5 by omega)).1.1
    have hcw : b + 635 + 2 * k ∈ wsB b := (us_fa (b := b) (show k < 5 by omega)).1
    have hit := gl_cell (t0 := b + 17) (mr := 10) (mc := 5) (tRS 0 (show 0 < 10 by omega)) (show k < 5 by omega)
    have htw : (GT b).ga (ρT 0) k ≠ b + 635 + 2 * k := fun q => by
      have q : (GL (b + 17) 10 5).ga (ρT 0) k = b + 635 + 2 * k := q
      omega
    have hzw : Z (b + 635 + 2 * k) = qq k := (hTC.2 _ (by omega)).trans (hq k (by omega)).1
    obtain ⟨nt, Ft, hWt⟩ := hw0.raw hct
    refine aw_iload dX5_reach_86 (by rfl) ?_
    refine aw_aload_n dX5_reach_88 (by rfl) (Or.inr ⟨_, rfl⟩) ?_
    refine aw_get fX5_35 dX5_reach_89 hb (by rfl) ?_
    refine aw_get fX5_111 dX5_reach_92 wgd (by rfl) ?_
    refine aw_icmp_geZ (tgt := 132) dX5_reach_95 (by decide) (by omega) (by omega) (fun hc_95 => ?_) (fun hc_95 => ?_)
    · exact absurd hc_95 (by omega)
    · refine aw_aload_n dX5_reach_98 (by rfl) (Or.inr ⟨_, rfl⟩) ?_
      refine aw_get fX5_27 dX5_reach_99 hb (by rfl) ?_
      refine aw_get fX5_141 dX5_reach_102 tgd (by rfl) ?_
      refine aw_iconstZ dX5_reach_105 ?_
      refine aw_aaldZ (t0 := 4) (0) (by rfl) dX5_reach_106 tra (by omega) (by omega) (by omega) ?_
      refine aw_get fX5_151 dX5_reach_107 tr1 (by rfl) ?_
      refine aw_iload dX5_reach_110 (by rfl) ?_
      refine aw_aaldZ (t0 := 5) (k) (by rfl) dX5_reach_112 tr2 (by omega) (by omega) (by omega) ?_
      refine aw_aload_n dX5_reach_113 (by rfl) (Or.inr ⟨_, rfl⟩) ?_
      refine aw_get fX5_53 dX5_reach_114 hb (by rfl) ?_
      refine aw_get fX5_151 dX5_reach_117 fr1 (by rfl) ?_
      refine aw_iload dX5_reach_120 (by rfl) ?_
      refine aw_aaldZ (t0 := 5) (k) (by rfl) dX5_reach_122 fr2 (by omega) (by omega) (by omega) ?_
      refine aw_callv vX5_192 dX5_reach_123 hWt.1 (w_copy d hw0 hct hcw htw (Sm.u156 (by rw [hzw]; exact (hq k (by omega)).2))) (by rfl) (by rfl) (by omega) (Nat.le_of_ble_eq_true rfl) ?_
      rintro _ V1 sz1 mc1 ms1 ⟨rfl, P1, L1, hs1⟩ -
      refine WE.stp (WSE.of hs1) ?_
      refine aw_iincZ dX5_reach_126 (by rfl) (by decide) ?_
      refine aw_goto (tgt := 86) dX5_reach_129 (by decide) ?_
      rw [show ((k : Int) + 1) = ((k + 1 : Nat) : Int) by omega]
      refine aw_pk [6, 0] (by rfl) ?_
      exact IH (k + 1) (by omega) hs1.1 (fun a ha => (hs1.2.2.1 a ha).trans (hV a ha)) (hTC.step (b := b) tRS tinj (by omega) (by omega) hzw)
set_option maxRecDepth 20000 in
theorem c_reach {g : GX} {b : Nat} {X : Nat → Prop} {V : AH} {sz : Nat} {Z : Nat → Int} {S : TSt} {A : ASt} (d : Nat) {t u i : Int} {P L : Nat → Nat} (hw0 : WG g (wsB b) (SAB b X) V sz Z P L) (h : CX g b X V Z S A) (ht : R32 t) (hu : R32 u) (hi : R32 i) : AMet g mX5_reach (d + 8) [.ref b, .int (iZ t), .int (iZ u), .int (iZ i)] V sz (CE g b X V sz L (AskR S A t u i (RchR S A))) := by
  obtain ⟨⟨hb, hb1⟩, hTb, hOk, -⟩ := id h
  obtain ⟨v, hv⟩ := FindV.ex S b t
  obtain ⟨v2, hv2⟩ := FindV.ex S b u
  rcases id hv with ⟨x, hx, rfl, hrx, rfl⟩ | ⟨hno, rfl⟩
  · rcases id hv2 with ⟨y, hy, rfl, hry, rfl⟩ | ⟨hno2, rfl⟩
    · have hy1 := (hTb y hy).1
      by_cases hcc : S.c x = S.c y
      · by_cases hir : 0 ≤ i ∧ i < (S.r y : Int)
        · obtain ⟨k, rfl⟩ : ∃ k : Nat, i = (k : Int) := ⟨i.toNat, by omega⟩
          have hAsk : AskP S (x : Int) (y : Int) (k : Int) x y k := ⟨hx, hy, rfl, rfl, rfl, hrx, hry, hcc, by omega⟩
          obtain ⟨q1, q3, -⟩ := hOk x hx
          obtain ⟨q2, -, -, qy, -⟩ := hOk y hy
          obtain ⟨h0, w0, ld0, ρ0, hG0⟩ := h.2.2.2.2.2.2.1
          have hgd0 : V (b + 159) = _ := hG0.1
          refine AMet.of rfl rfl (Nat.le_of_ble_eq_true rfl) ?_
          show AW g mX5_reach (d + 8) 0 [(0, .ref b), (1, .int (iZ x)), (2, .int (iZ y)), (3, .int (iZ k))] [] V sz _
          refine aw_aload_n dX5_reach_0 (by rfl) (Or.inr ⟨_, rfl⟩) ?_
          refine aw_iload_n dX5_reach_1 (by rfl) ?_
          refine aw_callv vX5_72 dX5_reach_2 hb (t_find (d + 6) h ht hv) (by rfl) (by rfl) (by omega) (Nat.le_of_ble_eq_true rfl) ?_
          rintro _ _ _ _ _ ⟨rfl, rfl, rfl, rfl, rfl⟩ -
          refine q0 ?_
          refine aw_astore dX5_reach_5 (by decide) (Or.inr ⟨_, rfl⟩) ?_
          refine aw_aload_n dX5_reach_7 (by rfl) (Or.inr ⟨_, rfl⟩) ?_
          refine aw_iload_n dX5_reach_8 (by rfl) ?_
          refine aw_callv vX5_72 dX5_reach_9 hb (t_find (d + 6) h hu hv2) (by rfl) (by rfl) (by omega) (Nat.le_of_ble_eq_true rfl) ?_
          rintro _ _ _ _ _ ⟨rfl, rfl, rfl, rfl, rfl⟩ -
          refine q0 ?_
          refine aw_astore dX5_reach_12 (by decide) (Or.inr ⟨_, rfl⟩) ?_
          refine aw_aload dX5_reach_14 (by rfl) (Or.inr ⟨_, rfl⟩) ?_
          refine aw_aload dX5_reach_16 (by rfl) (Or.inr ⟨_, rfl⟩) ?_
          refine aw_calls sX5_137 dX5_reach_18 (t_areAlike (d + 6 + 1) (q := 1) h hv hv2 (Or.inl ⟨rfl, x, y, hx, hy, rfl, rfl, hrx, hry, hcc⟩)) (by rfl) (by rfl) (by omega) (Nat.le_of_ble_eq_true rfl) ?_
          rintro _ _ _ _ _ ⟨rfl, rfl, rfl, rfl, rfl⟩ -
          refine q0 ?_
          refine aw_if_eqZ (tgt := 33) dX5_reach_21 (by decide) (by decide) (fun hc_21 => ?_) (fun hc_21 => ?_)
          · exact absurd hc_21 (by decide)
          · refine aw_aload dX5_reach_24 (by rfl) (Or.inr ⟨_, rfl⟩) ?_
            refine aw_iload_n dX5_reach_26 (by rfl) ?_
            refine aw_callv vX5_76 dX5_reach_27 hy1 (t_hasRow g (d + 6 + 1) (i := (k : Int)) (hTb y hy) (by have := (hOk y hy).1; omega) hi) (by rfl) (by rfl) (by omega) (Nat.le_of_ble_eq_true rfl) ?_
            rintro _ _ _ _ _ ⟨rfl, rfl, rfl, rfl, rfl⟩ -
            refine q0 ?_
            refine aw_if_neZ (tgt := 35) dX5_reach_30 (by decide) (by split <;> omega) (fun hc_30 => ?_) (fun hc_30 => ?_)
            · refine aw_aload_n dX5_reach_35 (by rfl) (Or.inr ⟨_, rfl⟩) ?_
              refine aw_get fX5_35 dX5_reach_36 hb (by rfl) ?_
              refine aw_aload dX5_reach_39 (by rfl) (Or.inr ⟨_, rfl⟩) ?_
              refine aw_callv vX5_103 dX5_reach_41 hgd0 (c_reachW d hw0 h hx) (by rfl) (by rfl) (by omega) (Nat.le_of_ble_eq_true rfl) ?_
              rintro _ V1 sz1 mc1 ms1 ⟨Z1, P1, L1, ⟨rfl, hcx1, ⟨h1, ld1, l1, ρ1, hg1⟩, -⟩, hs1⟩ -
              refine WE.stp hs1 ?_
              have hb1' := hcx1.1.1
              have hh1 : h1 ≤ S.c x := hg1.2.2.1.1.le_w
              have hrow1 := hcx1.2.2.2.2.2.2.2.2.2.1.1
              refine aw_aload_n dX5_reach_44 (by rfl) (Or.inr ⟨_, rfl⟩) ?_
              refine aw_get fX5_49 dX5_reach_45 hb1' (by rfl) ?_
              refine aw_aload dX5_reach_48 (by rfl) (Or.inr ⟨_, rfl⟩) ?_
              refine aw_iload_n dX5_reach_50 (by rfl) ?_
              refine aw_iconstZ dX5_reach_51 ?_
              refine aw_callv vX5_144 dX5_reach_52 hrow1 (c_readA (d + 5) (f := 1) hs1.1 hcx1 hy (i := k) (by omega) (Or.inl rfl)) (by rfl) (by rfl) (by omega) (Nat.le_of_ble_eq_true rfl) ?_
              rintro _ V2 sz2 mc2 ms2 ⟨Z2, P2, L2, ⟨rfl, hcx2, hkv2, hrd, hot⟩, hs2⟩ -
              refine WE.stp hs2 ?_
              have hb2 := hcx2.1.1
              obtain ⟨hg2, hAm2⟩ := hg1.read (X := X) (by omega) (by omega) hkv2 hot
              have hgd2 : V2 (b + 159) = some (grO (b + 159 + 21) (b + 159 + 20) (b + 159 + 1) (b + 159 + 16) (b + 159 + 18) h1 (S.c x)) := hg2.1.1
              refine aw_aload_n dX5_reach_55 (by rfl) (Or.inr ⟨_, rfl⟩) ?_
              refine aw_get fX5_35 dX5_reach_56 hb2 (by rfl) ?_
              refine aw_aload_n dX5_reach_59 (by rfl) (Or.inr ⟨_, rfl⟩) ?_
              refine aw_get fX5_49 dX5_reach_60 hb2 (by rfl) ?_
              refine aw_iconstZ dX5_reach_63 ?_
              refine aw_aload_n dX5_reach_64 (by rfl) (Or.inr ⟨_, rfl⟩) ?_
              refine aw_get fX5_35 dX5_reach_65 hb2 (by rfl) ?_
              refine aw_get fX5_111 dX5_reach_68 hgd2 (by rfl) ?_
              refine aw_aload_n dX5_reach_71 (by rfl) (Or.inr ⟨_, rfl⟩) ?_
              refine aw_get fX5_53 dX5_reach_72 hb2 (by rfl) ?_
              refine aw_callv vX5_185 dX5_reach_75 hgd2 (c_offW (d + 2) (fr := 0) (to := h1) (C := 1000) hs2.1 hcx2 hg2 (hOk.tb hx) (by omega) ⟨by omega, by omega, by omega⟩ (by omega) (fun j hj => by rw [hrd j (by omega), Int.one_mul]; have := qy (5 * k + j) (by omega); unfold ab; omega) (sm_off (by omega) (by omega))) (by rfl) (by rfl) (by omega) (Nat.le_of_ble_eq_true rfl) ?_
              rintro _ V3 sz3 mc3 ms3 ⟨Z3, P3, L3, ⟨hcx3, hg3, ⟨hkv3, hZ3, hAm3, -⟩, qq, hq1, hq2, -, hres⟩, hs3⟩ -
              refine WE.stp hs3 ?_
              have hin : Span (TM (S.N x)) (S.r x) (S.c x) (TM (S.N y) k) ↔ ∀ j, j < S.c x → Z3 (b + 613 + 2 * j) = 0 := by
                rw [hg2.2.2.2 (TM (S.N y) k)]
                refine off_in hg2.2.2.1 (v' := fun j => Z3 (b + 613 + 2 * j)) (q := qq) (fun j hj => ?_) (fun k hk => ?_)
                · have h5 := hq1 j hj
                  rw [hrd j (by omega), Int.one_mul, Nat.sub_zero] at h5
                  rw [h5]
                  simp only [Nat.zero_add]
                · have h5 := hq2 k (by omega)
                  simp only [Nat.zero_add] at h5
                  exact h5.2
              have hb3 := hcx3.1.1
              have hgd3 : V3 (b + 159) = some (grO (b + 159 + 21) (b + 159 + 20) (b + 159 + 1) (b + 159 + 16) (b + 159 + 18) h1 (S.c x)) := hg3.1.1
              rcases hres with ⟨hz, rfl⟩ | ⟨hz, rfl⟩
              · refine aw_if_neZ (tgt := 83) dX5_reach_78 (by decide) (by decide) (fun _ => ?_) (fun h => absurd h (by decide))
                have hz0 := hz
                have hmul : ∀ j, j < S.c x → TM (S.N y) k j = Sg (fun i => qq i * AM (GWd b) Z2 ρ1 i j) h1 := fun j hj => by
                  have h5 := hq1 j hj
                  rw [hrd j (by omega), Int.one_mul, Nat.sub_zero, hz j hj] at h5
                  simp only [Nat.zero_add] at h5
                  show S.N y (5 * k + j) = _
                  omega
                have hqb : ∀ t, t < h1 → Z3 (b + 635 + 2 * t) = qq t ∧ Sm (qq t) := fun t ht => by
                  refine ⟨(hq2 t (by omega)).1, sm_small ?_⟩
                  have e1 := mul_bd hg2.2.2.1 (b := TM (S.N y) k) (m := qq) (X := 1000) hmul (fun j hj => by
                    have := qy (5 * k + j) (by omega)
                    show ab (S.N y (5 * k + j)) ≤ 1000
                    unfold ab; omega) (by omega) (t + 1) (by omega)
                  have e2 := two_le (show t + 1 ≤ 5 by omega)
                  have e3 : (2 : Int) ^ 5 = 32 := by decide
                  have e4 : 0 ≤ Sg (fun i => ab (qq i)) t := Sg_nn (fun i _ => ab0 _)
                  have e5 : Sg (fun i => ab (qq i)) (t + 1) = Sg (fun i => ab (qq i)) t + ab (qq t) := rfl
                  omega
                obtain ⟨ldT, ρT, hGD, -⟩ := hcx3.2.2.2.2.1
                have hA := hcx3.2.2.2.2.2.1
                refine aw_iconstZ dX5_reach_83 ?_
                refine aw_istore dX5_reach_84 (by decide) ?_
                refine aw_pk [6, 0] (by rfl) ?_
                refine rcc (d + 4) hcx3 hGD hgd3 (by omega) hqb (fun {V4 sz4 Z4 P4 L4} hw4 hV4 hTC4 => ?_) h1 0 (by omega) hs3.1 (fun _ _ => rfl) ⟨fun a e _ _ q => absurd q (by omega), fun _ _ => rfl⟩
                have hb4 := (hV4 b (Or.inl rfl)).trans hb3
                have hGT4 : GD g V4 (b + 17 + 1) (GT b) A.h A.w ldT ρT := hGD.kept2 (fun a ha => hV4 a (sab_gT ha).1)
                have wgd4 := (hV4 (b + 159) (sab_gW (Or.inl rfl)).1).trans hgd3
                by_cases e0 : h1 = 0
                · refine aw_aload_n dX5_reach_132 (by rfl) (Or.inr ⟨_, rfl⟩) ?_
                  refine aw_aload_n dX5_reach_133 (by rfl) (Or.inr ⟨_, rfl⟩) ?_
                  refine aw_get fX5_35 dX5_reach_134 hb4 (by rfl) ?_
                  refine aw_get fX5_111 dX5_reach_137 wgd4 (by rfl) ?_
                  refine aw_if_leZ (tgt := 147) dX5_reach_140 (by decide) (by omega) (fun hc_140 => ?_) (fun hc_140 => ?_)
                  · refine aw_iconstZ dX5_reach_147 ?_
                    refine aw_aload_n dX5_reach_148 (by rfl) (Or.inr ⟨_, rfl⟩) ?_
                    refine aw_get fX5_35 dX5_reach_149 hb4 (by rfl) ?_
                    refine aw_get fX5_111 dX5_reach_152 wgd4 (by rfl) ?_
                    show AW _ _ _ _ _ (.int (iZ h1) :: .int (iZ ((0 : Nat) : Int)) :: _) _ _ _
                    refine aw_callv vX5_148 dX5_reach_155 hb4 (t_closeAnswer g (d + 6) (r := 0) (w := h1) hb4 hGT4 (by omega)) (by rfl) (by rfl) (by omega) (Nat.le_of_ble_eq_true rfl) ?_
                    rintro _ _ _ _ _ ⟨rfl, rfl, rfl, rfl, rfl⟩ -
                    refine WE.stp (cl_wse hw4) ?_
                    refine aw_iconstZ dX5_reach_158 ?_
                    refine aw_iret dX5_reach_159 rfl (by rfl) ?_
                    obtain ⟨hcx, hAI⟩ := hcx3.ans (V := V4) (Z := Z4) (r := 0) (w := h1) (M := fun _ j => qq j) hGD hA hV4 hTC4.2 (by omega) (fun i j hi hj => hTC4.1 i j (by omega) hj (by omega))
                    refine WE.ret (cl_wse hw4).1 ⟨S, _, hcx, rfl, Or.inl ⟨x, y, k, hAsk, Or.inl ⟨rfl, h1, l1, _, qq, hg2.2.2.1, hg2.2.2.2, hmul, ?_⟩⟩⟩
                    rw [if_pos e0]
                    exact hAI
                  · exact absurd hc_140 (by omega)
                · refine aw_aload_n dX5_reach_132 (by rfl) (Or.inr ⟨_, rfl⟩) ?_
                  refine aw_aload_n dX5_reach_133 (by rfl) (Or.inr ⟨_, rfl⟩) ?_
                  refine aw_get fX5_35 dX5_reach_134 hb4 (by rfl) ?_
                  refine aw_get fX5_111 dX5_reach_137 wgd4 (by rfl) ?_
                  refine aw_if_leZ (tgt := 147) dX5_reach_140 (by decide) (by omega) (fun hc_140 => ?_) (fun hc_140 => ?_)
                  · exact absurd hc_140 (by omega)
                  · refine aw_iconstZ dX5_reach_143 ?_
                    refine aw_goto (tgt := 148) dX5_reach_144 (by decide) ?_
                    refine aw_aload_n dX5_reach_148 (by rfl) (Or.inr ⟨_, rfl⟩) ?_
                    refine aw_get fX5_35 dX5_reach_149 hb4 (by rfl) ?_
                    refine aw_get fX5_111 dX5_reach_152 wgd4 (by rfl) ?_
                    show AW _ _ _ _ _ (.int (iZ h1) :: .int (iZ ((1 : Nat) : Int)) :: _) _ _ _
                    refine aw_callv vX5_148 dX5_reach_155 hb4 (t_closeAnswer g (d + 6) (r := 1) (w := h1) hb4 hGT4 (by omega)) (by rfl) (by rfl) (by omega) (Nat.le_of_ble_eq_true rfl) ?_
                    rintro _ _ _ _ _ ⟨rfl, rfl, rfl, rfl, rfl⟩ -
                    refine WE.stp (cl_wse hw4) ?_
                    refine aw_iconstZ dX5_reach_158 ?_
                    refine aw_iret dX5_reach_159 rfl (by rfl) ?_
                    obtain ⟨hcx, hAI⟩ := hcx3.ans (V := V4) (Z := Z4) (r := 1) (w := h1) (M := fun _ j => qq j) hGD hA hV4 hTC4.2 (by omega) (fun i j hi hj => hTC4.1 i j (by omega) hj (by omega))
                    refine WE.ret (cl_wse hw4).1 ⟨S, _, hcx, rfl, Or.inl ⟨x, y, k, hAsk, Or.inl ⟨rfl, h1, l1, _, qq, hg2.2.2.1, hg2.2.2.2, hmul, ?_⟩⟩⟩
                    rw [if_neg e0]
                    exact hAI
              · refine aw_if_neZ (tgt := 83) dX5_reach_78 (by decide) (by decide) (fun h => absurd rfl h) (fun _ => ?_)
                refine aw_iconstZ dX5_reach_81 ?_
                refine aw_iret dX5_reach_82 rfl (by rfl) ?_
                exact WE.ret hs3.1 ⟨S, A, hcx3, rfl, Or.inl ⟨x, y, k, hAsk, Or.inr ⟨rfl, fun z => hz (hin.mp z), rfl⟩⟩⟩
            · exact absurd hc_30 (by rw [if_pos hir]; decide)
        · have hno3 : ¬ ∃ n m k : Nat, AskP S (x : Int) (y : Int) i n m k := by
            rintro ⟨n, m, k, k1, k2, k3, k4, k5, k6, k7, k8, k9⟩
            obtain rfl : y = m := by omega
            exact hir ⟨by omega, by omega⟩
          refine AMet.of rfl rfl (Nat.le_of_ble_eq_true rfl) ?_
          show AW g mX5_reach (d + 8) 0 [(0, .ref b), (1, .int (iZ x)), (2, .int (iZ y)), (3, .int (iZ i))] [] V sz _
          refine aw_aload_n dX5_reach_0 (by rfl) (Or.inr ⟨_, rfl⟩) ?_
          refine aw_iload_n dX5_reach_1 (by rfl) ?_
          refine aw_callv vX5_72 dX5_reach_2 hb (t_find (d + 6) h ht hv) (by rfl) (by rfl) (by omega) (Nat.le_of_ble_eq_true rfl) ?_
          rintro _ _ _ _ _ ⟨rfl, rfl, rfl, rfl, rfl⟩ -
          refine q0 ?_
          refine aw_astore dX5_reach_5 (by decide) (Or.inr ⟨_, rfl⟩) ?_
          refine aw_aload_n dX5_reach_7 (by rfl) (Or.inr ⟨_, rfl⟩) ?_
          refine aw_iload_n dX5_reach_8 (by rfl) ?_
          refine aw_callv vX5_72 dX5_reach_9 hb (t_find (d + 6) h hu hv2) (by rfl) (by rfl) (by omega) (Nat.le_of_ble_eq_true rfl) ?_
          rintro _ _ _ _ _ ⟨rfl, rfl, rfl, rfl, rfl⟩ -
          refine q0 ?_
          refine aw_astore dX5_reach_12 (by decide) (Or.inr ⟨_, rfl⟩) ?_
          refine aw_aload dX5_reach_14 (by rfl) (Or.inr ⟨_, rfl⟩) ?_
          refine aw_aload dX5_reach_16 (by rfl) (Or.inr ⟨_, rfl⟩) ?_
          refine aw_calls sX5_137 dX5_reach_18 (t_areAlike (d + 6 + 1) (q := 1) h hv hv2 (Or.inl ⟨rfl, x, y, hx, hy, rfl, rfl, hrx, hry, hcc⟩)) (by rfl) (by rfl) (by omega) (Nat.le_of_ble_eq_true rfl) ?_
          rintro _ _ _ _ _ ⟨rfl, rfl, rfl, rfl, rfl⟩ -
          refine q0 ?_
          refine aw_if_eqZ (tgt := 33) dX5_reach_21 (by decide) (by decide) (fun hc_21 => ?_) (fun hc_21 => ?_)
          · exact absurd hc_21 (by decide)
          · refine aw_aload dX5_reach_24 (by rfl) (Or.inr ⟨_, rfl⟩) ?_
            refine aw_iload_n dX5_reach_26 (by rfl) ?_
            refine aw_callv vX5_76 dX5_reach_27 hy1 (t_hasRow g (d + 6 + 1) (i := i) (hTb y hy) (by have := (hOk y hy).1; omega) hi) (by rfl) (by rfl) (by omega) (Nat.le_of_ble_eq_true rfl) ?_
            rintro _ _ _ _ _ ⟨rfl, rfl, rfl, rfl, rfl⟩ -
            refine q0 ?_
            refine aw_if_neZ (tgt := 35) dX5_reach_30 (by decide) (by split <;> omega) (fun hc_30 => ?_) (fun hc_30 => ?_)
            · exact absurd (if_neg hir) hc_30
            · refine aw_iconstZ dX5_reach_33 ?_
              refine aw_iret dX5_reach_34 rfl (by rfl) ?_
              exact WE.ret hw0 ⟨S, A, h, rfl, Or.inr ⟨hno3, rfl, rfl⟩⟩
      · have hal : ¬ (∃ n m : Nat, n < 12 ∧ m < 12 ∧ ((x : Nat) : Int) = (n : Int) ∧ ((y : Nat) : Int) = (m : Int) ∧ 0 < S.r n ∧ 0 < S.r m ∧ S.c n = S.c m) := fun ⟨n, k, _, _, e1, e2, _, _, e3⟩ => by
          obtain rfl : x = n := by omega
          obtain rfl : y = k := by omega
          exact hcc e3
        have hno3 : ¬ ∃ n m k : Nat, AskP S (x : Int) (y : Int) i n m k := fun ⟨n, m, k, k1, k2, k3, k4, k5, k6, k7, k8, k9⟩ => hal ⟨n, m, k1, k2, k3, k4, k6, k7, k8⟩
        refine AMet.of rfl rfl (Nat.le_of_ble_eq_true rfl) ?_
        show AW g mX5_reach (d + 8) 0 [(0, .ref b), (1, .int (iZ x)), (2, .int (iZ y)), (3, .int (iZ i))] [] V sz _
        refine aw_aload_n dX5_reach_0 (by rfl) (Or.inr ⟨_, rfl⟩) ?_
        refine aw_iload_n dX5_reach_1 (by rfl) ?_
        refine aw_callv vX5_72 dX5_reach_2 hb (t_find (d + 6) h ht hv) (by rfl) (by rfl) (by omega) (Nat.le_of_ble_eq_true rfl) ?_
        rintro _ _ _ _ _ ⟨rfl, rfl, rfl, rfl, rfl⟩ -
        refine q0 ?_
        refine aw_astore dX5_reach_5 (by decide) (Or.inr ⟨_, rfl⟩) ?_
        refine aw_aload_n dX5_reach_7 (by rfl) (Or.inr ⟨_, rfl⟩) ?_
        refine aw_iload_n dX5_reach_8 (by rfl) ?_
        refine aw_callv vX5_72 dX5_reach_9 hb (t_find (d + 6) h hu hv2) (by rfl) (by rfl) (by omega) (Nat.le_of_ble_eq_true rfl) ?_
        rintro _ _ _ _ _ ⟨rfl, rfl, rfl, rfl, rfl⟩ -
        refine q0 ?_
        refine aw_astore dX5_reach_12 (by decide) (Or.inr ⟨_, rfl⟩) ?_
        refine aw_aload dX5_reach_14 (by rfl) (Or.inr ⟨_, rfl⟩) ?_
        refine aw_aload dX5_reach_16 (by rfl) (Or.inr ⟨_, rfl⟩) ?_
        refine aw_calls sX5_137 dX5_reach_18 (t_areAlike (d + 6 + 1) (q := 0) h hv hv2 (Or.inr ⟨rfl, hal⟩)) (by rfl) (by rfl) (by omega) (Nat.le_of_ble_eq_true rfl) ?_
        rintro _ _ _ _ _ ⟨rfl, rfl, rfl, rfl, rfl⟩ -
        refine q0 ?_
        refine aw_if_eqZ (tgt := 33) dX5_reach_21 (by decide) (by decide) (fun hc_21 => ?_) (fun hc_21 => ?_)
        · refine aw_iconstZ dX5_reach_33 ?_
          refine aw_iret dX5_reach_34 rfl (by rfl) ?_
          exact WE.ret hw0 ⟨S, A, h, rfl, Or.inr ⟨hno3, rfl, rfl⟩⟩
        · exact absurd rfl hc_21
    · have hal : ¬ (∃ n m : Nat, n < 12 ∧ m < 12 ∧ ((x : Nat) : Int) = (n : Int) ∧ u = (m : Int) ∧ 0 < S.r n ∧ 0 < S.r m ∧ S.c n = S.c m) := fun ⟨n, k, _, hk, e1, e2, _, hk2, e3⟩ => by
        have := hno2 k hk e2
        omega
      have hno3 : ¬ ∃ n m k : Nat, AskP S (x : Int) u i n m k := fun ⟨n, m, k, k1, k2, k3, k4, k5, k6, k7, k8, k9⟩ => hal ⟨n, m, k1, k2, k3, k4, k6, k7, k8⟩
      refine AMet.of rfl rfl (Nat.le_of_ble_eq_true rfl) ?_
      show AW g mX5_reach (d + 8) 0 [(0, .ref b), (1, .int (iZ x)), (2, .int (iZ u)), (3, .int (iZ i))] [] V sz _
      refine aw_aload_n dX5_reach_0 (by rfl) (Or.inr ⟨_, rfl⟩) ?_
      refine aw_iload_n dX5_reach_1 (by rfl) ?_
      refine aw_callv vX5_72 dX5_reach_2 hb (t_find (d + 6) h ht hv) (by rfl) (by rfl) (by omega) (Nat.le_of_ble_eq_true rfl) ?_
      rintro _ _ _ _ _ ⟨rfl, rfl, rfl, rfl, rfl⟩ -
      refine q0 ?_
      refine aw_astore dX5_reach_5 (by decide) (Or.inr ⟨_, rfl⟩) ?_
      refine aw_aload_n dX5_reach_7 (by rfl) (Or.inr ⟨_, rfl⟩) ?_
      refine aw_iload_n dX5_reach_8 (by rfl) ?_
      refine aw_callv vX5_72 dX5_reach_9 hb (t_find (d + 6) h hu hv2) (by rfl) (by rfl) (by omega) (Nat.le_of_ble_eq_true rfl) ?_
      rintro _ _ _ _ _ ⟨rfl, rfl, rfl, rfl, rfl⟩ -
      refine q0 ?_
      refine aw_astore dX5_reach_12 (by decide) (Or.inl rfl) ?_
      refine aw_aload dX5_reach_14 (by rfl) (Or.inr ⟨_, rfl⟩) ?_
      refine aw_aload dX5_reach_16 (by rfl) (Or.inl rfl) ?_
      refine aw_calls sX5_137 dX5_reach_18 (t_areAlike (d + 6 + 1) (q := 0) h hv hv2 (Or.inr ⟨rfl, hal⟩)) (by rfl) (by rfl) (by omega) (Nat.le_of_ble_eq_true rfl) ?_
      rintro _ _ _ _ _ ⟨rfl, rfl, rfl, rfl, rfl⟩ -
      refine q0 ?_
      refine aw_if_eqZ (tgt := 33) dX5_reach_21 (by decide) (by decide) (fun hc_21 => ?_) (fun hc_21 => ?_)
      · refine aw_iconstZ dX5_reach_33 ?_
        refine aw_iret dX5_reach_34 rfl (by rfl) ?_
        exact WE.ret hw0 ⟨S, A, h, rfl, Or.inr ⟨hno3, rfl, rfl⟩⟩
      · exact absurd rfl hc_21
  · have hal : ¬ (∃ n m : Nat, n < 12 ∧ m < 12 ∧ t = (n : Int) ∧ u = (m : Int) ∧ 0 < S.r n ∧ 0 < S.r m ∧ S.c n = S.c m) := fun ⟨n, k, hk, _, e1, e2, hk2, _, e3⟩ => by
      have := hno n hk e1
      omega
    have hno3 : ¬ ∃ n m k : Nat, AskP S t u i n m k := fun ⟨n, m, k, k1, k2, k3, k4, k5, k6, k7, k8, k9⟩ => hal ⟨n, m, k1, k2, k3, k4, k6, k7, k8⟩
    rcases id hv2 with ⟨y, hy, rfl, hry, rfl⟩ | ⟨hno2, rfl⟩
    · skip
      refine AMet.of rfl rfl (Nat.le_of_ble_eq_true rfl) ?_
      show AW g mX5_reach (d + 8) 0 [(0, .ref b), (1, .int (iZ t)), (2, .int (iZ y)), (3, .int (iZ i))] [] V sz _
      refine aw_aload_n dX5_reach_0 (by rfl) (Or.inr ⟨_, rfl⟩) ?_
      refine aw_iload_n dX5_reach_1 (by rfl) ?_
      refine aw_callv vX5_72 dX5_reach_2 hb (t_find (d + 6) h ht hv) (by rfl) (by rfl) (by omega) (Nat.le_of_ble_eq_true rfl) ?_
      rintro _ _ _ _ _ ⟨rfl, rfl, rfl, rfl, rfl⟩ -
      refine q0 ?_
      refine aw_astore dX5_reach_5 (by decide) (Or.inl rfl) ?_
      refine aw_aload_n dX5_reach_7 (by rfl) (Or.inr ⟨_, rfl⟩) ?_
      refine aw_iload_n dX5_reach_8 (by rfl) ?_
      refine aw_callv vX5_72 dX5_reach_9 hb (t_find (d + 6) h hu hv2) (by rfl) (by rfl) (by omega) (Nat.le_of_ble_eq_true rfl) ?_
      rintro _ _ _ _ _ ⟨rfl, rfl, rfl, rfl, rfl⟩ -
      refine q0 ?_
      refine aw_astore dX5_reach_12 (by decide) (Or.inr ⟨_, rfl⟩) ?_
      refine aw_aload dX5_reach_14 (by rfl) (Or.inl rfl) ?_
      refine aw_aload dX5_reach_16 (by rfl) (Or.inr ⟨_, rfl⟩) ?_
      refine aw_calls sX5_137 dX5_reach_18 (t_areAlike (d + 6 + 1) (q := 0) h hv hv2 (Or.inr ⟨rfl, hal⟩)) (by rfl) (by rfl) (by omega) (Nat.le_of_ble_eq_true rfl) ?_
      rintro _ _ _ _ _ ⟨rfl, rfl, rfl, rfl, rfl⟩ -
      refine q0 ?_
      refine aw_if_eqZ (tgt := 33) dX5_reach_21 (by decide) (by decide) (fun hc_21 => ?_) (fun hc_21 => ?_)
      · refine aw_iconstZ dX5_reach_33 ?_
        refine aw_iret dX5_reach_34 rfl (by rfl) ?_
        exact WE.ret hw0 ⟨S, A, h, rfl, Or.inr ⟨hno3, rfl, rfl⟩⟩
      · exact absurd rfl hc_21
    · skip
      refine AMet.of rfl rfl (Nat.le_of_ble_eq_true rfl) ?_
      show AW g mX5_reach (d + 8) 0 [(0, .ref b), (1, .int (iZ t)), (2, .int (iZ u)), (3, .int (iZ i))] [] V sz _
      refine aw_aload_n dX5_reach_0 (by rfl) (Or.inr ⟨_, rfl⟩) ?_
      refine aw_iload_n dX5_reach_1 (by rfl) ?_
      refine aw_callv vX5_72 dX5_reach_2 hb (t_find (d + 6) h ht hv) (by rfl) (by rfl) (by omega) (Nat.le_of_ble_eq_true rfl) ?_
      rintro _ _ _ _ _ ⟨rfl, rfl, rfl, rfl, rfl⟩ -
      refine q0 ?_
      refine aw_astore dX5_reach_5 (by decide) (Or.inl rfl) ?_
      refine aw_aload_n dX5_reach_7 (by rfl) (Or.inr ⟨_, rfl⟩) ?_
      refine aw_iload_n dX5_reach_8 (by rfl) ?_
      refine aw_callv vX5_72 dX5_reach_9 hb (t_find (d + 6) h hu hv2) (by rfl) (by rfl) (by omega) (Nat.le_of_ble_eq_true rfl) ?_
      rintro _ _ _ _ _ ⟨rfl, rfl, rfl, rfl, rfl⟩ -
      refine q0 ?_
      refine aw_astore dX5_reach_12 (by decide) (Or.inl rfl) ?_
      refine aw_aload dX5_reach_14 (by rfl) (Or.inl rfl) ?_
      refine aw_aload dX5_reach_16 (by rfl) (Or.inl rfl) ?_
      refine aw_calls sX5_137 dX5_reach_18 (t_areAlike (d + 6 + 1) (q := 0) h hv hv2 (Or.inr ⟨rfl, hal⟩)) (by rfl) (by rfl) (by omega) (Nat.le_of_ble_eq_true rfl) ?_
      rintro _ _ _ _ _ ⟨rfl, rfl, rfl, rfl, rfl⟩ -
      refine q0 ?_
      refine aw_if_eqZ (tgt := 33) dX5_reach_21 (by decide) (by decide) (fun hc_21 => ?_) (fun hc_21 => ?_)
      · refine aw_iconstZ dX5_reach_33 ?_
        refine aw_iret dX5_reach_34 rfl (by rfl) ?_
        exact WE.ret hw0 ⟨S, A, h, rfl, Or.inr ⟨hno3, rfl, rfl⟩⟩
      · exact absurd rfl hc_21

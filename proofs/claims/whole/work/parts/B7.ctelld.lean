/-! ===== the class: tellDual ===== -/
theorem TCp.out {b : Nat} {ρT : Nat → Nat} {Z0 Z : Nat → Int} {M : Mat} {h w i : Nat} (k : TCp b ρT Z0 M h w i w Z) : TCp b ρT Z0 M h w (i + 1) 0 Z := ⟨fun a e ha he hp => k.1 a e ha he (by omega), k.2⟩
/-- what is told of a dual -/
def duM (D : Int) (B : Mat) : Mat := fun i j => if i = 0 then (if j = 0 then D else 0) else B (i - 1) j
abbrev mX5_tellDual : MI := (yX5_tellDual, cX5_tellDual, 4, none, noX)
theorem dX5_tellDual_0 : decode cX5_tellDual 0 = .ok (.iconst 0, 1) := by decide +kernel
theorem dX5_tellDual_1 : decode cX5_tellDual 1 = .ok (.istore_n 3, 1) := by decide +kernel
theorem dX5_tellDual_2 : decode cX5_tellDual 2 = .ok (.iload_n 3, 1) := by decide +kernel
theorem dX5_tellDual_3 : decode cX5_tellDual 3 = .ok (.aload_n 0, 1) := by decide +kernel
theorem dX5_tellDual_4 : decode cX5_tellDual 4 = .ok (.getfield 35, 3) := by decide +kernel
theorem dX5_tellDual_7 : decode cX5_tellDual 7 = .ok (.getfield 114, 3) := by decide +kernel
theorem dX5_tellDual_10 : decode cX5_tellDual 10 = .ok (.if_icmp .ge 35, 3) := by decide +kernel
theorem dX5_tellDual_13 : decode cX5_tellDual 13 = .ok (.aload_n 0, 1) := by decide +kernel
theorem dX5_tellDual_14 : decode cX5_tellDual 14 = .ok (.getfield 27, 3) := by decide +kernel
theorem dX5_tellDual_17 : decode cX5_tellDual 17 = .ok (.getfield 141, 3) := by decide +kernel
theorem dX5_tellDual_20 : decode cX5_tellDual 20 = .ok (.iconst 0, 1) := by decide +kernel
theorem dX5_tellDual_21 : decode cX5_tellDual 21 = .ok (.aaload, 1) := by decide +kernel
theorem dX5_tellDual_22 : decode cX5_tellDual 22 = .ok (.getfield 151, 3) := by decide +kernel
theorem dX5_tellDual_25 : decode cX5_tellDual 25 = .ok (.iload_n 3, 1) := by decide +kernel
theorem dX5_tellDual_26 : decode cX5_tellDual 26 = .ok (.aaload, 1) := by decide +kernel
theorem dX5_tellDual_27 : decode cX5_tellDual 27 = .ok (.iload_n 3, 1) := by decide +kernel
theorem dX5_tellDual_28 : decode cX5_tellDual 28 = .ok (.ifCond .ne 7, 3) := by decide +kernel
theorem dX5_tellDual_31 : decode cX5_tellDual 31 = .ok (.lload_n 1, 1) := by decide +kernel
theorem dX5_tellDual_32 : decode cX5_tellDual 32 = .ok (.goto 4, 3) := by decide +kernel
theorem dX5_tellDual_35 : decode cX5_tellDual 35 = .ok (.lconst 0, 1) := by decide +kernel
theorem dX5_tellDual_36 : decode cX5_tellDual 36 = .ok (.invokevirtual 159, 3) := by decide +kernel
theorem dX5_tellDual_39 : decode cX5_tellDual 39 = .ok (.iinc 3 1, 3) := by decide +kernel
theorem dX5_tellDual_42 : decode cX5_tellDual 42 = .ok (.goto (-40), 3) := by decide +kernel
theorem dX5_tellDual_45 : decode cX5_tellDual 45 = .ok (.iconst 0, 1) := by decide +kernel
theorem dX5_tellDual_46 : decode cX5_tellDual 46 = .ok (.istore_n 3, 1) := by decide +kernel
theorem dX5_tellDual_47 : decode cX5_tellDual 47 = .ok (.iload_n 3, 1) := by decide +kernel
theorem dX5_tellDual_48 : decode cX5_tellDual 48 = .ok (.aload_n 0, 1) := by decide +kernel
theorem dX5_tellDual_49 : decode cX5_tellDual 49 = .ok (.getfield 35, 3) := by decide +kernel
theorem dX5_tellDual_52 : decode cX5_tellDual 52 = .ok (.getfield 111, 3) := by decide +kernel
theorem dX5_tellDual_55 : decode cX5_tellDual 55 = .ok (.if_icmp .ge 39, 3) := by decide +kernel
theorem dX5_tellDual_58 : decode cX5_tellDual 58 = .ok (.aload_n 0, 1) := by decide +kernel
theorem dX5_tellDual_59 : decode cX5_tellDual 59 = .ok (.getfield 27, 3) := by decide +kernel
theorem dX5_tellDual_62 : decode cX5_tellDual 62 = .ok (.getfield 141, 3) := by decide +kernel
theorem dX5_tellDual_65 : decode cX5_tellDual 65 = .ok (.iload_n 3, 1) := by decide +kernel
theorem dX5_tellDual_66 : decode cX5_tellDual 66 = .ok (.iconst 1, 1) := by decide +kernel
theorem dX5_tellDual_67 : decode cX5_tellDual 67 = .ok (.iadd, 1) := by decide +kernel
theorem dX5_tellDual_68 : decode cX5_tellDual 68 = .ok (.aaload, 1) := by decide +kernel
theorem dX5_tellDual_69 : decode cX5_tellDual 69 = .ok (.aload_n 0, 1) := by decide +kernel
theorem dX5_tellDual_70 : decode cX5_tellDual 70 = .ok (.getfield 35, 3) := by decide +kernel
theorem dX5_tellDual_73 : decode cX5_tellDual 73 = .ok (.getfield 141, 3) := by decide +kernel
theorem dX5_tellDual_76 : decode cX5_tellDual 76 = .ok (.iload_n 3, 1) := by decide +kernel
theorem dX5_tellDual_77 : decode cX5_tellDual 77 = .ok (.aaload, 1) := by decide +kernel
theorem dX5_tellDual_78 : decode cX5_tellDual 78 = .ok (.aload_n 0, 1) := by decide +kernel
theorem dX5_tellDual_79 : decode cX5_tellDual 79 = .ok (.getfield 35, 3) := by decide +kernel
theorem dX5_tellDual_82 : decode cX5_tellDual 82 = .ok (.getfield 114, 3) := by decide +kernel
theorem dX5_tellDual_85 : decode cX5_tellDual 85 = .ok (.invokevirtual 216, 3) := by decide +kernel
theorem dX5_tellDual_88 : decode cX5_tellDual 88 = .ok (.iinc 3 1, 3) := by decide +kernel
theorem dX5_tellDual_91 : decode cX5_tellDual 91 = .ok (.goto (-44), 3) := by decide +kernel
theorem dX5_tellDual_94 : decode cX5_tellDual 94 = .ok (.aload_n 0, 1) := by decide +kernel
theorem dX5_tellDual_95 : decode cX5_tellDual 95 = .ok (.aload_n 0, 1) := by decide +kernel
theorem dX5_tellDual_96 : decode cX5_tellDual 96 = .ok (.getfield 35, 3) := by decide +kernel
theorem dX5_tellDual_99 : decode cX5_tellDual 99 = .ok (.getfield 111, 3) := by decide +kernel
theorem dX5_tellDual_102 : decode cX5_tellDual 102 = .ok (.iconst 1, 1) := by decide +kernel
theorem dX5_tellDual_103 : decode cX5_tellDual 103 = .ok (.iadd, 1) := by decide +kernel
theorem dX5_tellDual_104 : decode cX5_tellDual 104 = .ok (.aload_n 0, 1) := by decide +kernel
theorem dX5_tellDual_105 : decode cX5_tellDual 105 = .ok (.getfield 35, 3) := by decide +kernel
theorem dX5_tellDual_108 : decode cX5_tellDual 108 = .ok (.getfield 114, 3) := by decide +kernel
theorem dX5_tellDual_111 : decode cX5_tellDual 111 = .ok (.invokevirtual 148, 3) := by decide +kernel
theorem dX5_tellDual_114 : decode cX5_tellDual 114 = .ok (.return_, 1) := by decide +kernel
set_option maxRecDepth 20000 in
theorem td_1 (d : Nat) {g : GX} {b : Nat} {X : Nat → Prop} {S : TSt} {A : ASt} {V0 : AH} {Z0 : Nat → Int} {hh w hT wT : Nat} {ld ldT : Nat → Int} {ρ ρT : Nat → Nat} {D : Int} {QR : Option Value → TSt → ASt → Prop} (h0 : CX g b X V0 Z0 S A) (hT0 : GD g V0 (b + 17 + 1) (GT b) hT wT ldT ρT) (hW0 : GD g V0 (b + 159 + 1) (GWd b) hh w ld ρ) (hhw : hh ≤ 5 ∧ w ≤ 5) (hD : -9223372036854775808 < D ∧ D < 9223372036854775808) (hSm : ∀ i j, i < hh → j < w → Sm (AM (GWd b) Z0 ρ i j)) (hKK : ∀ {V : AH} {sz : Nat} {Z : Nat → Int} {P L : Nat → Nat}, WG g (wsB b) (SAB b X) V sz Z P L → (∀ a, SAB b X a → V a = V0 a) → TCp b ρT Z0 (duM D (AM (GWd b) Z0 ρ)) (hh + 1) w 0 w Z → AW g mX5_tellDual (d + 8) 45 [(0, .ref b)] [] V sz (CE g b X V sz L QR)) : ∀ (f j : Nat), j + f = w → ∀ {V : AH} {sz : Nat} {Z : Nat → Int} {P L : Nat → Nat}, WG g (wsB b) (SAB b X) V sz Z P L → (∀ a, SAB b X a → V a = V0 a) → TCp b ρT Z0 (duM D (AM (GWd b) Z0 ρ)) (hh + 1) w 0 j Z → AW g mX5_tellDual (d + 8) 2 [(3, .int (iZ (j : Int))), (0, .ref b), (1, .long (jZ D))] [] V sz (CE g b X V sz L QR)
  | 0, j, hf, V, sz, Z, P, L, hw0, hV, hTC => by
    obtain rfl : w = j := by omega
    have hb := (hV b (Or.inl rfl)).trans h0.1.1
    have hGT : GD g V (b + 17 + 1) (GT b) hT wT ldT ρT := hT0.kept2 (fun a ha => hV a (sab_gT ha).1)
    obtain ⟨tgd, tra, -, trow, tRS, tinj⟩ := id hGT
    have tgd : V (b + 17) = some (grO (b + 17 + 21) (b + 17 + 20) (b + 17 + 1) (b + 17 + 16) (b + 17 + 18) hT wT) := tgd
    have tra : V (b + 17 + 21) = some (aQ g 4 10 (fun i => some (ρT i))) := tra
    have hGW : GD g V (b + 159 + 1) (GWd b) hh w ld ρ := hW0.kept2 (fun a ha => hV a (sab_gW ha).1)
    obtain ⟨wgd, wra, -, wrow, wRS, winj⟩ := id hGW
    have wgd : V (b + 159) = some (grO (b + 159 + 21) (b + 159 + 20) (b + 159 + 1) (b + 159 + 16) (b + 159 + 18) hh w) := wgd
    have wra : V (b + 159 + 21) = some (aQ g 4 11 (fun i => some (ρ i))) := wra
    refine aw_iload_n dX5_tellDual_2 (by rfl) ?_
    refine aw_aload_n dX5_tellDual_3 (by rfl) (Or.inr ⟨_, rfl⟩) ?_
    refine aw_get fX5_35 dX5_tellDual_4 hb (by rfl) ?_
    refine aw_get fX5_114 dX5_tellDual_7 wgd (by rfl) ?_
    refine aw_icmp_geZ (tgt := 45) dX5_tellDual_10 (by decide) (by omega) (by omega) (fun hc_10 => ?_) (fun hc_10 => ?_)
    · refine aw_pk [0] (by rfl) ?_
      exact hKK hw0 hV hTC
    · exact absurd hc_10 (by omega)
  | f + 1, j, hf, V, sz, Z, P, L, hw0, hV, hTC => by
    have IH := fun j hj => @td_1 d g b X S A V0 Z0 hh w hT wT ld ldT ρ ρT D QR h0 hT0 hW0 hhw hD hSm hKK f j hj
    have hb := (hV b (Or.inl rfl)).trans h0.1.1
    have hGT : GD g V (b + 17 + 1) (GT b) hT wT ldT ρT := hT0.kept2 (fun a ha => hV a (sab_gT ha).1)
    obtain ⟨tgd, tra, -, trow, tRS, tinj⟩ := id hGT
    have tgd : V (b + 17) = some (grO (b + 17 + 21) (b + 17 + 20) (b + 17 + 1) (b + 17 + 16) (b + 17 + 18) hT wT) := tgd
    have tra : V (b + 17 + 21) = some (aQ g 4 10 (fun i => some (ρT i))) := tra
    have hGW : GD g V (b + 159 + 1) (GWd b) hh w ld ρ := hW0.kept2 (fun a ha => hV a (sab_gW ha).1)
    obtain ⟨wgd, wra, -, wrow, wRS, winj⟩ := id hGW
    have wgd : V (b + 159) = some (grO (b + 159 + 21) (b + 159 + 20) (b + 159 + 1) (b + 159 + 16) (b + 159 + 18) hh w) := wgd
    have wra : V (b + 159 + 21) = some (aQ g 4 11 (fun i => some (ρ i))) := wra
    obtain ⟨tr1, tr2, -⟩ := trow _ (tRS 0 (show 0 < 10 by omega))
    have tr2 : V ((GT b).ka (ρT 0)) = some (aQ g 5 5 (fun j => some ((GT b).ga (ρT 0) j))) := tr2
    have hct := ((gst_T b X).2.2.2.2.1 _ (tRS 0 (show 0 < 10 by omega)) j (show j < 5 by omega)).1.1
    obtain ⟨nt, Ft, hWt⟩ := hw0.raw hct
    have hz : (duM D (AM (GWd b) Z0 ρ)) 0 j = if j = 0 then D else 0 := if_pos rfl
    refine aw_iload_n dX5_tellDual_2 (by rfl) ?_
    refine aw_aload_n dX5_tellDual_3 (by rfl) (Or.inr ⟨_, rfl⟩) ?_
    refine aw_get fX5_35 dX5_tellDual_4 hb (by rfl) ?_
    refine aw_get fX5_114 dX5_tellDual_7 wgd (by rfl) ?_
    refine aw_icmp_geZ (tgt := 45) dX5_tellDual_10 (by decide) (by omega) (by omega) (fun hc_10 => ?_) (fun hc_10 => ?_)
    · exact absurd hc_10 (by omega)
    · refine aw_aload_n dX5_tellDual_13 (by rfl) (Or.inr ⟨_, rfl⟩) ?_
      refine aw_get fX5_27 dX5_tellDual_14 hb (by rfl) ?_
      refine aw_get fX5_141 dX5_tellDual_17 tgd (by rfl) ?_
      refine aw_iconstZ dX5_tellDual_20 ?_
      refine aw_aaldZ (t0 := 4) (0) (by rfl) dX5_tellDual_21 tra (by omega) (by omega) (by omega) ?_
      refine aw_get fX5_151 dX5_tellDual_22 tr1 (by rfl) ?_
      refine aw_iload_n dX5_tellDual_25 (by rfl) ?_
      refine aw_aaldZ (t0 := 5) (j) (by rfl) dX5_tellDual_26 tr2 (by omega) (by omega) (by omega) ?_
      refine aw_iload_n dX5_tellDual_27 (by rfl) ?_
      refine aw_if_neZ (tgt := 35) dX5_tellDual_28 (by decide) (by omega) (fun hc_28 => ?_) (fun hc_28 => ?_)
      · refine aw_lconstZ (z := 0) dX5_tellDual_35 (by decide) ?_
        refine aw_topl (y := if j = 0 then D else 0) (by first | (rw [if_pos (by omega)]; done) | (rw [if_neg (by omega)]; done)) ?_
        refine aw_callv vX5_159 dX5_tellDual_36 hWt.1 (w_put (d + 6) (z := if j = 0 then D else 0) hw0 hct (by split <;> omega)) (by rfl) (by rfl) (by omega) (Nat.le_of_ble_eq_true rfl) ?_
        rintro _ V1 sz1 mc1 ms1 ⟨rfl, P1, L1, hs1⟩ -
        refine WE.stp (WSE.of hs1) ?_
        refine aw_iincZ dX5_tellDual_39 (by rfl) (by decide) ?_
        refine aw_goto (tgt := 2) dX5_tellDual_42 (by decide) ?_
        rw [show ((j : Int) + 1) = ((j + 1 : Nat) : Int) by omega]
        refine aw_pk [3, 0, 1] (by rfl) ?_
        exact IH (j + 1) (by omega) hs1.1 (fun a ha => (hs1.2.2.1 a ha).trans (hV a ha)) (hTC.step (b := b) tRS tinj (by omega) (by omega) hz.symm)
      · refine aw_lload_n dX5_tellDual_31 (by rfl) ?_
        refine aw_goto (tgt := 36) dX5_tellDual_32 (by decide) ?_
        refine aw_topl (y := if j = 0 then D else 0) (by first | (rw [if_pos (by omega)]; done) | (rw [if_neg (by omega)]; done)) ?_
        refine aw_callv vX5_159 dX5_tellDual_36 hWt.1 (w_put (d + 6) (z := if j = 0 then D else 0) hw0 hct (by split <;> omega)) (by rfl) (by rfl) (by omega) (Nat.le_of_ble_eq_true rfl) ?_
        rintro _ V1 sz1 mc1 ms1 ⟨rfl, P1, L1, hs1⟩ -
        refine WE.stp (WSE.of hs1) ?_
        refine aw_iincZ dX5_tellDual_39 (by rfl) (by decide) ?_
        refine aw_goto (tgt := 2) dX5_tellDual_42 (by decide) ?_
        rw [show ((j : Int) + 1) = ((j + 1 : Nat) : Int) by omega]
        refine aw_pk [3, 0, 1] (by rfl) ?_
        exact IH (j + 1) (by omega) hs1.1 (fun a ha => (hs1.2.2.1 a ha).trans (hV a ha)) (hTC.step (b := b) tRS tinj (by omega) (by omega) hz.symm)
set_option maxRecDepth 20000 in
theorem td_2 (d : Nat) {g : GX} {b : Nat} {X : Nat → Prop} {S : TSt} {A : ASt} {V0 : AH} {Z0 : Nat → Int} {hh w hT wT : Nat} {ld ldT : Nat → Int} {ρ ρT : Nat → Nat} {D : Int} {QR : Option Value → TSt → ASt → Prop} (h0 : CX g b X V0 Z0 S A) (hT0 : GD g V0 (b + 17 + 1) (GT b) hT wT ldT ρT) (hW0 : GD g V0 (b + 159 + 1) (GWd b) hh w ld ρ) (hhw : hh ≤ 5 ∧ w ≤ 5) (hD : -9223372036854775808 < D ∧ D < 9223372036854775808) (hSm : ∀ i j, i < hh → j < w → Sm (AM (GWd b) Z0 ρ i j)) (hKK : ∀ {V : AH} {sz : Nat} {Z : Nat → Int} {P L : Nat → Nat}, WG g (wsB b) (SAB b X) V sz Z P L → (∀ a, SAB b X a → V a = V0 a) → TCp b ρT Z0 (duM D (AM (GWd b) Z0 ρ)) (hh + 1) w (hh + 1) 0 Z → AW g mX5_tellDual (d + 8) 94 [(0, .ref b)] [] V sz (CE g b X V sz L QR)) : ∀ (f i : Nat), i + f = hh → ∀ {V : AH} {sz : Nat} {Z : Nat → Int} {P L : Nat → Nat}, WG g (wsB b) (SAB b X) V sz Z P L → (∀ a, SAB b X a → V a = V0 a) → TCp b ρT Z0 (duM D (AM (GWd b) Z0 ρ)) (hh + 1) w (i + 1) 0 Z → AW g mX5_tellDual (d + 8) 47 [(3, .int (iZ (i : Int))), (0, .ref b)] [] V sz (CE g b X V sz L QR)
  | 0, i, hf, V, sz, Z, P, L, hw0, hV, hTC => by
    obtain rfl : hh = i := by omega
    have hb := (hV b (Or.inl rfl)).trans h0.1.1
    have hGT : GD g V (b + 17 + 1) (GT b) hT wT ldT ρT := hT0.kept2 (fun a ha => hV a (sab_gT ha).1)
    obtain ⟨tgd, tra, -, trow, tRS, tinj⟩ := id hGT
    have tgd : V (b + 17) = some (grO (b + 17 + 21) (b + 17 + 20) (b + 17 + 1) (b + 17 + 16) (b + 17 + 18) hT wT) := tgd
    have tra : V (b + 17 + 21) = some (aQ g 4 10 (fun i => some (ρT i))) := tra
    have hGW : GD g V (b + 159 + 1) (GWd b) hh w ld ρ := hW0.kept2 (fun a ha => hV a (sab_gW ha).1)
    obtain ⟨wgd, wra, -, wrow, wRS, winj⟩ := id hGW
    have wgd : V (b + 159) = some (grO (b + 159 + 21) (b + 159 + 20) (b + 159 + 1) (b + 159 + 16) (b + 159 + 18) hh w) := wgd
    have wra : V (b + 159 + 21) = some (aQ g 4 11 (fun i => some (ρ i))) := wra
    refine aw_iload_n dX5_tellDual_47 (by rfl) ?_
    refine aw_aload_n dX5_tellDual_48 (by rfl) (Or.inr ⟨_, rfl⟩) ?_
    refine aw_get fX5_35 dX5_tellDual_49 hb (by rfl) ?_
    refine aw_get fX5_111 dX5_tellDual_52 wgd (by rfl) ?_
    refine aw_icmp_geZ (tgt := 94) dX5_tellDual_55 (by decide) (by omega) (by omega) (fun hc_55 => ?_) (fun hc_55 => ?_)
    · refine aw_pk [0] (by rfl) ?_
      exact hKK hw0 hV hTC
    · exact absurd hc_55 (by omega)
  | f + 1, i, hf, V, sz, Z, P, L, hw0, hV, hTC => by
    have IH := fun i hi => @td_2 d g b X S A V0 Z0 hh w hT wT ld ldT ρ ρT D QR h0 hT0 hW0 hhw hD hSm hKK f i hi
    have hb := (hV b (Or.inl rfl)).trans h0.1.1
    have hGT : GD g V (b + 17 + 1) (GT b) hT wT ldT ρT := hT0.kept2 (fun a ha => hV a (sab_gT ha).1)
    obtain ⟨tgd, tra, -, trow, tRS, tinj⟩ := id hGT
    have tgd : V (b + 17) = some (grO (b + 17 + 21) (b + 17 + 20) (b + 17 + 1) (b + 17 + 16) (b + 17 + 18) hT wT) := tgd
    have tra : V (b + 17 + 21) = some (aQ g 4 10 (fun i => some (ρT i))) := tra
    have hGW : GD g V (b + 159 + 1) (GWd b) hh w ld ρ := hW0.kept2 (fun a ha => hV a (sab_gW ha).1)
    obtain ⟨wgd, wra, -, wrow, wRS, winj⟩ := id hGW
    have wgd : V (b + 159) = some (grO (b + 159 + 21) (b + 159 + 20) (b + 159 + 1) (b + 159 + 16) (b + 159 + 18) hh w) := wgd
    have wra : V (b + 159 + 21) = some (aQ g 4 11 (fun i => some (ρ i))) := wra
    have hRt := tRS (i + 1) (show i + 1 < 10 by omega)
    have hrt : RowV g V (ρT (i + 1)) ((GT b).ka (ρT (i + 1))) 5 ((GT b).ga (ρT (i + 1))) := trow _ hRt
    have hRw := wRS i (show i < 11 by omega)
    have hrw : RowV g V (ρ i) ((GWd b).ka (ρ i)) 10 ((GWd b).ga (ρ i)) := wrow _ hRw
    have hzw : ∀ j, j < w → Z ((GWd b).ga (ρ i) j) = AM (GWd b) Z0 ρ i j := fun j hj => hTC.2 _ (by have := am_W hGW (i := i) (j := j) (by omega) (by omega); omega)
    refine aw_iload_n dX5_tellDual_47 (by rfl) ?_
    refine aw_aload_n dX5_tellDual_48 (by rfl) (Or.inr ⟨_, rfl⟩) ?_
    refine aw_get fX5_35 dX5_tellDual_49 hb (by rfl) ?_
    refine aw_get fX5_111 dX5_tellDual_52 wgd (by rfl) ?_
    refine aw_icmp_geZ (tgt := 94) dX5_tellDual_55 (by decide) (by omega) (by omega) (fun hc_55 => ?_) (fun hc_55 => ?_)
    · exact absurd hc_55 (by omega)
    · refine aw_aload_n dX5_tellDual_58 (by rfl) (Or.inr ⟨_, rfl⟩) ?_
      refine aw_get fX5_27 dX5_tellDual_59 hb (by rfl) ?_
      refine aw_get fX5_141 dX5_tellDual_62 tgd (by rfl) ?_
      refine aw_iload_n dX5_tellDual_65 (by rfl) ?_
      refine aw_iconstZ dX5_tellDual_66 ?_
      refine aw_iaddZ dX5_tellDual_67 ?_
      refine aw_aaldZ (t0 := 4) (i + 1) (by rfl) dX5_tellDual_68 tra (by omega) (by omega) (by omega) ?_
      refine aw_aload_n dX5_tellDual_69 (by rfl) (Or.inr ⟨_, rfl⟩) ?_
      refine aw_get fX5_35 dX5_tellDual_70 hb (by rfl) ?_
      refine aw_get fX5_141 dX5_tellDual_73 wgd (by rfl) ?_
      refine aw_iload_n dX5_tellDual_76 (by rfl) ?_
      refine aw_aaldZ (t0 := 4) (i) (by rfl) dX5_tellDual_77 wra (by omega) (by omega) (by omega) ?_
      refine aw_aload_n dX5_tellDual_78 (by rfl) (Or.inr ⟨_, rfl⟩) ?_
      refine aw_get fX5_35 dX5_tellDual_79 hb (by rfl) ?_
      refine aw_get fX5_114 dX5_tellDual_82 wgd (by rfl) ?_
      refine aw_callv vX5_216 dX5_tellDual_85 hrt.1 (w_copyOf (d + 3) (w := w) hw0 hrt hrw (fun j hj => ((gst_T b X).2.2.2.2.1 _ hRt j hj).1.1) (fun j hj => ((gst_W b X).2.2.2.2.1 _ hRw j hj).1.1) (fun a e ha he hne q => hne ((gst_T b X).2.2.2.2.2.1 _ _ _ _ hRt hRt ha he q).2) (fun a e ha he => by have h1 := am_T hGT (i := i + 1) (j := a) (by omega) ha; have h2 := am_W hGW (i := i) (j := e) (by omega) he; omega) ((gst_T b X).2.2.2.1 _ hRt).1 ((gst_T b X).2.2.2.1 _ hRt).2.1 ((gst_W b X).2.2.2.1 _ hRw).1 ((gst_W b X).2.2.2.1 _ hRw).2.1 ⟨by omega, by omega⟩ (fun j hj => by rw [hzw j hj]; exact hSm i j (by omega) hj)) (by rfl) (by rfl) (by omega) (Nat.le_of_ble_eq_true rfl) ?_
      rintro _ V1 sz1 mc1 ms1 ⟨Z1, P1, L1, ⟨rfl, hru⟩, hs1⟩ -
      refine WE.stp (hs1.weak (fun _ q => q.elim)) ?_
      refine aw_iincZ dX5_tellDual_88 (by rfl) (by decide) ?_
      refine aw_goto (tgt := 47) dX5_tellDual_91 (by decide) ?_
      rw [show ((i : Int) + 1) = ((i + 1 : Nat) : Int) by omega]
      refine aw_pk [3, 0] (by rfl) ?_
      refine IH (i + 1) (by omega) hs1.1 (fun a ha => (hs1.2.2.1 a ha (fun z => z)).trans (hV a ha)) (TCp.row (i := i + 1) (G := fun j => Z ((GWd b).ga (ρ i) j)) hTC tRS tinj (by omega) (by omega) hru (fun j hj => ?_))
      show Z _ = (if i + 1 = 0 then _ else AM (GWd b) Z0 ρ (i + 1 - 1) j)
      rw [if_neg (by omega), hzw j hj, show i + 1 - 1 = i by omega]
set_option maxRecDepth 20000 in
theorem t_tellDual (d : Nat) {g : GX} {b : Nat} {X : Nat → Prop} {S : TSt} {A : ASt} {V : AH} {Z : Nat → Int} {hh w hT wT : Nat} {ld ldT : Nat → Int} {ρ ρT : Nat → Nat} {D : Int} (h0 : CX g b X V Z S A) (hT0 : GD g V (b + 17 + 1) (GT b) hT wT ldT ρT) (hAo : AOK (A.t, hT, wT, fun _ _ => 0)) (hW0 : GD g V (b + 159 + 1) (GWd b) hh w ld ρ) (hhw : hh ≤ 5 ∧ w ≤ 5) (hD : -9223372036854775808 < D ∧ D < 9223372036854775808) (hSm : ∀ i j, i < hh → j < w → Sm (AM (GWd b) Z ρ i j)) {sz : Nat} {P L : Nat → Nat} (hw0 : WG g (wsB b) (SAB b X) V sz Z P L) : AMet g mX5_tellDual (d + 8) [.ref b, .long (jZ D)] V sz (CE g b X V sz L (fun q S' A' => S' = S ∧ none = q ∧ AIs A' (hh + 1) w (duM D (AM (GWd b) Z ρ)))) := by
  refine AMet.of rfl rfl (Nat.le_of_ble_eq_true rfl) ?_
  show AW g mX5_tellDual (d + 8) 0 [(0, .ref b), (1, .long (jZ D))] [] V sz _
  refine aw_iconstZ dX5_tellDual_0 ?_
  refine aw_istore_n dX5_tellDual_1 (by decide) ?_
  refine aw_pk [3, 0, 1] (by rfl) ?_
  refine td_1 d h0 hT0 hW0 hhw hD hSm (fun {V1 sz1 Z1 P1 L1} hw1 hV1 hTC1 => ?_) w 0 (by omega) hw0 (fun _ _ => rfl) ⟨fun a e _ _ q => absurd q (by omega), fun _ _ => rfl⟩
  refine aw_iconstZ dX5_tellDual_45 ?_
  refine aw_istore_n dX5_tellDual_46 (by decide) ?_
  refine aw_pk [3, 0] (by rfl) ?_
  refine td_2 d h0 hT0 hW0 hhw hD hSm (fun {V2 sz2 Z2 P2 L2} hw2 hV2 hTC2 => ?_) hh 0 (by omega) hw1 hV1 hTC1.out
  have hb2 := (hV2 b (Or.inl rfl)).trans h0.1.1
  have hGT2 : GD g V2 (b + 17 + 1) (GT b) hT wT ldT ρT := hT0.kept2 (fun a ha => hV2 a (sab_gT ha).1)
  have wgd2 : V2 (b + 159) = some (grO (b + 159 + 21) (b + 159 + 20) (b + 159 + 1) (b + 159 + 16) (b + 159 + 18) hh w) := (hV2 _ (sab_gW (Or.inl rfl)).1).trans hW0.1
  refine aw_aload_n dX5_tellDual_94 (by rfl) (Or.inr ⟨_, rfl⟩) ?_
  refine aw_aload_n dX5_tellDual_95 (by rfl) (Or.inr ⟨_, rfl⟩) ?_
  refine aw_get fX5_35 dX5_tellDual_96 hb2 (by rfl) ?_
  refine aw_get fX5_111 dX5_tellDual_99 wgd2 (by rfl) ?_
  refine aw_iconstZ dX5_tellDual_102 ?_
  refine aw_iaddZ dX5_tellDual_103 ?_
  refine aw_aload_n dX5_tellDual_104 (by rfl) (Or.inr ⟨_, rfl⟩) ?_
  refine aw_get fX5_35 dX5_tellDual_105 hb2 (by rfl) ?_
  refine aw_get fX5_114 dX5_tellDual_108 wgd2 (by rfl) ?_
  rw [show ((hh : Int) + 1) = ((hh + 1 : Nat) : Int) by omega]
  refine aw_callv vX5_148 dX5_tellDual_111 hb2 (t_closeAnswer g (d + 6) (r := hh + 1) (w := w) hb2 hGT2 (by omega)) (by rfl) (by rfl) (by omega) (Nat.le_of_ble_eq_true rfl) ?_
  rintro _ _ _ _ _ ⟨rfl, rfl, rfl, rfl, rfl⟩ -
  refine WE.stp (cl_wse hw2) ?_
  refine aw_ret dX5_tellDual_114 rfl ?_
  obtain ⟨hcx, hAI⟩ := h0.ans (V := V2) (Z := Z2) (r := hh + 1) (w := w) (M := (duM D (AM (GWd b) Z ρ))) hT0 hAo hV2 hTC2.2 (by omega) (fun i j hi hj => hTC2.1 i j hi hj (by omega))
  exact WE.ret (cl_wse hw2).1 ⟨S, _, hcx, rfl, rfl, hAI⟩

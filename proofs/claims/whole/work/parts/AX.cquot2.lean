/-! ===== the class: quotient, whole ===== -/
set_option maxRecDepth 20000 in
theorem c_quotient {g : GX} {b : Nat} {X : Nat → Prop} {V : AH} {sz : Nat} {Z : Nat → Int} {S : TSt} {A : ASt} (d : Nat) {t u : Int} {P L : Nat → Nat} (hw0 : WG g (wsB b) (SAB b X) V sz Z P L) (h : CX g b X V Z S A) (ht : R32 t) (hu : R32 u) : AMet g mX5_quotient (d + 8) [.ref b, .int (iZ t), .int (iZ u)] V sz (CE g b X V sz L (AlkR S A t u (-1) (QuoR S A))) := by
  obtain ⟨⟨hb, hb1⟩, hTb, hOk, -⟩ := id h
  obtain ⟨v, hv⟩ := FindV.ex S b t
  obtain ⟨v2, hv2⟩ := FindV.ex S b u
  rcases id hv with ⟨x, hx, rfl, hrx, rfl⟩ | ⟨hno, rfl⟩
  · rcases id hv2 with ⟨y, hy, rfl, hry, rfl⟩ | ⟨hno2, rfl⟩
    · by_cases hcc : S.c x = S.c y
      · skip
        obtain ⟨q1, q3, -⟩ := hOk x hx
        obtain ⟨q2, q4, -⟩ := hOk y hy
        obtain ⟨h0, w0, ld0, ρ0, hG0⟩ := h.2.2.2.2.2.2.1
        have hgd0 : V (b + 159) = _ := hG0.1
        refine AMet.of rfl rfl (Nat.le_of_ble_eq_true rfl) ?_
        show AW g mX5_quotient (d + 8) 0 [(0, .ref b), (1, .int (iZ x)), (2, .int (iZ y))] [] V sz _
        refine aw_aload_n dX5_quotient_0 (by rfl) (Or.inr ⟨_, rfl⟩) ?_
        refine aw_iload_n dX5_quotient_1 (by rfl) ?_
        refine aw_callv vX5_72 dX5_quotient_2 hb (t_find (d + 6) h ht hv) (by rfl) (by rfl) (by omega) (Nat.le_of_ble_eq_true rfl) ?_
        rintro _ _ _ _ _ ⟨rfl, rfl, rfl, rfl, rfl⟩ -
        refine q0 ?_
        refine aw_astore_n dX5_quotient_5 (by decide) (Or.inr ⟨_, rfl⟩) ?_
        refine aw_aload_n dX5_quotient_6 (by rfl) (Or.inr ⟨_, rfl⟩) ?_
        refine aw_iload_n dX5_quotient_7 (by rfl) ?_
        refine aw_callv vX5_72 dX5_quotient_8 hb (t_find (d + 6) h hu hv2) (by rfl) (by rfl) (by omega) (Nat.le_of_ble_eq_true rfl) ?_
        rintro _ _ _ _ _ ⟨rfl, rfl, rfl, rfl, rfl⟩ -
        refine q0 ?_
        refine aw_astore dX5_quotient_11 (by decide) (Or.inr ⟨_, rfl⟩) ?_
        refine aw_aload_n dX5_quotient_13 (by rfl) (Or.inr ⟨_, rfl⟩) ?_
        refine aw_aload dX5_quotient_14 (by rfl) (Or.inr ⟨_, rfl⟩) ?_
        refine aw_calls sX5_137 dX5_quotient_16 (t_areAlike (d + 6 + 1) (q := 1) h hv hv2 (Or.inl ⟨rfl, x, y, hx, hy, rfl, rfl, hrx, hry, hcc⟩)) (by rfl) (by rfl) (by omega) (Nat.le_of_ble_eq_true rfl) ?_
        rintro _ _ _ _ _ ⟨rfl, rfl, rfl, rfl, rfl⟩ -
        refine q0 ?_
        refine aw_if_neZ (tgt := 24) dX5_quotient_19 (by decide) (by decide) (fun hc_19 => ?_) (fun hc_19 => ?_)
        · refine aw_aload_n dX5_quotient_24 (by rfl) (Or.inr ⟨_, rfl⟩) ?_
          refine aw_get fX5_35 dX5_quotient_25 hb (by rfl) ?_
          refine aw_aload_n dX5_quotient_28 (by rfl) (Or.inr ⟨_, rfl⟩) ?_
          refine aw_callv vX5_103 dX5_quotient_29 hgd0 (c_reachW d hw0 h hx) (by rfl) (by rfl) (by omega) (Nat.le_of_ble_eq_true rfl) ?_
          rintro _ V1 sz1 mc1 ms1 ⟨Z1, P1, L1, ⟨rfl, hcx1, ⟨h1, ld1, l1, ρ1, hg1⟩, -⟩, hs1⟩ -
          refine WE.stp hs1 ?_
          have hb1' := hcx1.1.1
          have hh1 : h1 ≤ S.c x := hg1.2.2.1.1.le_w
          obtain ⟨h0', w0', ld0', ρ0', hG0'⟩ := hcx1.2.2.2.2.2.2.2.1
          have hgs1 : V1 (b + 423) = _ := hG0'.1
          refine aw_aload_n dX5_quotient_32 (by rfl) (Or.inr ⟨_, rfl⟩) ?_
          refine aw_get fX5_38 dX5_quotient_33 hb1' (by rfl) ?_
          refine aw_aload dX5_quotient_36 (by rfl) (Or.inr ⟨_, rfl⟩) ?_
          refine aw_callv vX5_103 dX5_quotient_38 hgs1 (c_reachS d hs1.1 hcx1 hy) (by rfl) (by rfl) (by omega) (Nat.le_of_ble_eq_true rfl) ?_
          rintro _ V2 sz2 mc2 ms2 ⟨Z2, P2, L2, ⟨rfl, hcx2, ⟨h2, ld2, l2, ρ2, hg2⟩, hch2⟩, hs2⟩ -
          refine WE.stp hs2 ?_
          have hb2 := hcx2.1.1
          have hh2 : h2 ≤ S.c y := hg2.2.2.1.1.le_w
          have hg1b : GSp g b V2 Z2 (GWd b) (TM (S.N x)) (S.r x) (S.c x) h1 ld1 l1 ρ1 := hg1.keep (hg1.1.kept2 (fun a ha => hch2.1 a (sab_gW ha).1 (by have := (sab_gW (X := X) ha).2; omega))) (fun i j hi hj => hch2.2 _ (by have := am_W hg1.1 (i := i) (j := j) (by omega) (by omega); omega))
          have wgd2 : V2 (b + 159) = some (grO (b + 159 + 21) (b + 159 + 20) (b + 159 + 1) (b + 159 + 16) (b + 159 + 18) h1 (S.c x)) := hg1b.1.1
          have sgd2 : V2 (b + 423) = some (grO (b + 423 + 21) (b + 423 + 20) (b + 423 + 1) (b + 423 + 16) (b + 423 + 18) h2 (S.c y)) := hg2.1.1
          obtain ⟨h3, w3, ld3, ρ3, hT3⟩ := hcx2.2.2.2.2.2.2.2.2.1
          have tgd2 : V2 (b + 517) = _ := hT3.1
          refine aw_aload_n dX5_quotient_41 (by rfl) (Or.inr ⟨_, rfl⟩) ?_
          refine aw_get fX5_38 dX5_quotient_42 hb2 (by rfl) ?_
          refine aw_get fX5_111 dX5_quotient_45 sgd2 (by rfl) ?_
          refine aw_aload_n dX5_quotient_48 (by rfl) (Or.inr ⟨_, rfl⟩) ?_
          refine aw_get fX5_35 dX5_quotient_49 hb2 (by rfl) ?_
          refine aw_get fX5_111 dX5_quotient_52 wgd2 (by rfl) ?_
          refine aw_isubZ dX5_quotient_55 ?_
          refine aw_istore dX5_quotient_56 (by decide) ?_
          refine aw_aload_n dX5_quotient_58 (by rfl) (Or.inr ⟨_, rfl⟩) ?_
          refine aw_get fX5_41 dX5_quotient_59 hb2 (by rfl) ?_
          refine aw_aload_n dX5_quotient_62 (by rfl) (Or.inr ⟨_, rfl⟩) ?_
          refine aw_get fX5_38 dX5_quotient_63 hb2 (by rfl) ?_
          refine aw_get fX5_111 dX5_quotient_66 sgd2 (by rfl) ?_
          refine aw_callv vX5_203 dX5_quotient_69 tgd2 (t_gbegin g (d + 7) (w' := h2) hT3) (by rfl) (by rfl) (by omega) (Nat.le_of_ble_eq_true rfl) ?_
          rintro _ _ _ _ _ ⟨rfl, rfl, rfl, rfl, rfl⟩ -
          refine q0 ?_
          refine WE.stp0 (WSE.sto hs2.1 (sab_gH (Or.inl rfl)).1 (⟨by show b ≤ b + 517; omega, by show b + 517 < b + 683; omega⟩ : EB b ((GTh b).gd))) ?_
          have hw3 := hs2.1.sto (e := grO (GTh b).ra (GTh b).la ((GTh b).gd + 1) (GTh b).fa (GTh b).pr (0 : Nat) h2) (sab_gH (b := b) (X := X) (Or.inl rfl)).1
          have hG3 := hT3.begin (D := DG (b + 517)) (gso_H b X) 0 h2
          have hV3 : ∀ a, a ≠ b + 517 → AHu V2 (GTh b).gd (grO (GTh b).ra (GTh b).la ((GTh b).gd + 1) (GTh b).fa (GTh b).pr (0 : Nat) h2) a = V2 a := fun a ha => AHu_ne ha
          have hcx3 := hcx2.third (V' := AHu V2 (GTh b).gd (grO (GTh b).ra (GTh b).la ((GTh b).gd + 1) (GTh b).fa (GTh b).pr (0 : Nat) h2)) (Z' := Z2) rfl rfl ⟨fun a _ hn => hV3 a (by omega), fun _ _ => rfl⟩ ⟨0, h2, ld3, ρ3, hG3⟩
          have hg13 : GSp g b (AHu V2 (GTh b).gd (grO (GTh b).ra (GTh b).la ((GTh b).gd + 1) (GTh b).fa (GTh b).pr (0 : Nat) h2)) Z2 (GWd b) (TM (S.N x)) (S.r x) (S.c x) h1 ld1 l1 ρ1 := hg1b.keep (hg1b.1.kept2 (fun a ha => hV3 a (by have := (sab_gW (X := X) ha).2; omega))) (fun _ _ _ _ => rfl)
          have hg23 : GSp g b (AHu V2 (GTh b).gd (grO (GTh b).ra (GTh b).la ((GTh b).gd + 1) (GTh b).fa (GTh b).pr (0 : Nat) h2)) Z2 (GSc b) (TM (S.N y)) (S.r y) (S.c y) h2 ld2 l2 ρ2 := hg2.keep (hg2.1.kept2 (fun a ha => hV3 a (by have := (sab_gS (X := X) ha).2; omega))) (fun _ _ _ _ => rfl)
          refine aw_iconstZ dX5_quotient_72 ?_
          refine aw_istore dX5_quotient_73 (by decide) ?_
          refine aw_pk [6, 5, 0] (by rfl) ?_
          refine qo_75 d (fr := (h2 : Int) - (h1 : Int)) hx hy hcc hg1b.2.2.1 hg1b.2.2.2 hg2.2.2.1 hg2.2.2.2 (fun hW => ⟨rfl, Or.inl ⟨x, y, hx, hy, rfl, rfl, hrx, hry, hcc, Or.inl ⟨rfl, hW, rfl⟩⟩⟩) (fun {V4 sz4 Z4 P4 L4 ht ldt lt ρt C} hw4 hcx4 hg14 hg24 hA1 hA2 hT4 hld hst hsp hhk hC hCb => ?_) h1 0 (by omega) hw3 hcx3 hg13 hg23 (fun _ _ _ _ => rfl) (fun _ _ _ _ => rfl) hG3 (lt := fun _ => 0) (C := fun _ _ => 0) (fun i hi => absurd hi (by omega)) Stair.nil SpEq.nil (Nat.le_refl _) (fun i j hi => absurd hi (by omega)) (fun i e hi => absurd hi (by omega))
          obtain ⟨hht, hent, hmn⟩ := quo_main hg1b.2.2.1 hg1b.2.2.2 (hOk.tb hx) (by rw [hcc]; exact hg2.2.2.1) hC hst hsp hhk (by omega) (by omega)
          obtain rfl : h1 = ht := hht.symm
          have hWin : WinP S x y := fun i hi => (hg2.2.2.2 _).mpr (span_sub (A' := AM (GWd b) Z2 ρ1) (fun k hk => ⟨C k, fun j hj => hC k j hk (by omega)⟩) (by have := (hg1b.2.2.2 _).mp (Span.row (A := TM (S.N x)) hi); rw [hcc] at this; exact this))
          have hdg : DGs g (wsB b) (SAB b X) (GTh b) (GSc b) (AM (GTh b) Z4 ρt) h2 Z4 V4 Z4 h1 h2 lt ρt := ⟨⟨hcx4.2.2.2.1.2.2.2, hcx4.2.2.2.1.2.2.1⟩, ⟨ldt, hT4, hld⟩, hst, hent, fun _ _ => Iff.rfl, hcx4.2.2.2.2.2.2.2.1, NF2.rf⟩
          have hb4 := hcx4.1.1
          refine aw_bipushZ dX5_quotient_164 (by decide) ?_
          refine aw_iload dX5_quotient_166 (by rfl) ?_
          refine aw_imulZ dX5_quotient_168 ?_
          refine aw_aload_n dX5_quotient_169 (by rfl) (Or.inr ⟨_, rfl⟩) ?_
          refine aw_aload_n dX5_quotient_170 (by rfl) (Or.inr ⟨_, rfl⟩) ?_
          refine aw_get fX5_41 dX5_quotient_171 hb4 (by rfl) ?_
          refine aw_aload_n dX5_quotient_174 (by rfl) (Or.inr ⟨_, rfl⟩) ?_
          refine aw_get fX5_38 dX5_quotient_175 hb4 (by rfl) ?_
          refine aw_calls sX5_167 dX5_quotient_178 (t_diagonalOf g d (G1 := GTh b) (G2 := GSc b) (dgp_SH b X).sw (by omega) (by omega) hmn hw4 hdg) (by rfl) (by rfl) (by omega) (Nat.le_of_ble_eq_true rfl) ?_
          rintro _ V5 sz5 mc5 ms5 ⟨Z5, P5, L5, ⟨F, T, hFT, rfl, hD5, hT5, hN5, w5, ld5, ρ5, dd, hF5, hw5, hw55, hpos, hdd, hdv⟩, hs5⟩ -
          refine WE.stp (hs5.weak (fun a z => ⟨by have := z.1; omega, by have := z.2; omega⟩)) ?_
          obtain ⟨hSF, hm, hrg⟩ := sh_facts (X := X) hFT.symm
          obtain ⟨n1, n2⟩ := sh_gd hFT.symm ⟨h1, w5, ld5, ρ5, hF5⟩ hT5
          have hcx5 : CX g b X V5 Z5 S A := hcx4.sh (fun a ha hn => hs5.2.2.1 a ha hn) (fun x hx => nf_SH hN5.sw (by omega)) (sh_dk hFT.symm hD5) n1 n2
          have hb5 := hcx5.1.1
          refine aw_iconstZ dX5_quotient_181 ?_
          refine aw_callv vX5_171 dX5_quotient_182 hb5 (t_tellSizes d (op := 0) hcx5 hSF hm hrg hF5 (by omega) (Or.inl rfl) hmn hpos hdv (fun a ha => (hdd a a ha (by omega)).trans (dg_d dd a)) hs5.1) (by rfl) (by rfl) (by omega) (Nat.le_of_ble_eq_true rfl) ?_
          rintro _ V6 sz6 mc6 ms6 ⟨Z6, P6, L6, ⟨S6, A6, hcx6, e6, d6, M6, hp6, hc6, hv6, rfl, hM6, hAI⟩, hs6⟩ -
          refine WE.stp hs6 ?_
          rw [e6] at hcx6
          refine aw_iaddZ dX5_quotient_185 ?_
          refine aw_iret dX5_quotient_186 rfl (by rfl) ?_
          refine WE.ret hs6.1 ⟨S, A6, hcx6, rfl, Or.inl ⟨x, y, hx, hy, rfl, rfl, hrx, hry, hcc, Or.inr ⟨hWin, h1, h2, l1, l2, AM (GWd b) Z2 ρ1, AM (GSc b) Z2 ρ2, C, d6, M6, ⟨hg1b.2.2.1, hg1b.2.2.2⟩, ⟨hg2.2.2.1, hg2.2.2.2⟩, hC, hp6, fun k hk => (gcp_chain hp6 hc6 hv6 hk).1.eq hsp, rfl, fun a ha q => hM6 a ha (Or.inr q), hAI⟩⟩⟩
        · exact absurd hc_19 (by decide)
      · have hal : ¬ (∃ n m : Nat, n < 12 ∧ m < 12 ∧ ((x : Nat) : Int) = (n : Int) ∧ ((y : Nat) : Int) = (m : Int) ∧ 0 < S.r n ∧ 0 < S.r m ∧ S.c n = S.c m) := fun ⟨n, k, _, _, e1, e2, _, _, e3⟩ => by
          obtain rfl : x = n := by omega
          obtain rfl : y = k := by omega
          exact hcc e3
        refine AMet.of rfl rfl (Nat.le_of_ble_eq_true rfl) ?_
        show AW g mX5_quotient (d + 8) 0 [(0, .ref b), (1, .int (iZ x)), (2, .int (iZ y))] [] V sz _
        refine aw_aload_n dX5_quotient_0 (by rfl) (Or.inr ⟨_, rfl⟩) ?_
        refine aw_iload_n dX5_quotient_1 (by rfl) ?_
        refine aw_callv vX5_72 dX5_quotient_2 hb (t_find (d + 6) h ht hv) (by rfl) (by rfl) (by omega) (Nat.le_of_ble_eq_true rfl) ?_
        rintro _ _ _ _ _ ⟨rfl, rfl, rfl, rfl, rfl⟩ -
        refine q0 ?_
        refine aw_astore_n dX5_quotient_5 (by decide) (Or.inr ⟨_, rfl⟩) ?_
        refine aw_aload_n dX5_quotient_6 (by rfl) (Or.inr ⟨_, rfl⟩) ?_
        refine aw_iload_n dX5_quotient_7 (by rfl) ?_
        refine aw_callv vX5_72 dX5_quotient_8 hb (t_find (d + 6) h hu hv2) (by rfl) (by rfl) (by omega) (Nat.le_of_ble_eq_true rfl) ?_
        rintro _ _ _ _ _ ⟨rfl, rfl, rfl, rfl, rfl⟩ -
        refine q0 ?_
        refine aw_astore dX5_quotient_11 (by decide) (Or.inr ⟨_, rfl⟩) ?_
        refine aw_aload_n dX5_quotient_13 (by rfl) (Or.inr ⟨_, rfl⟩) ?_
        refine aw_aload dX5_quotient_14 (by rfl) (Or.inr ⟨_, rfl⟩) ?_
        refine aw_calls sX5_137 dX5_quotient_16 (t_areAlike (d + 6 + 1) (q := 0) h hv hv2 (Or.inr ⟨rfl, hal⟩)) (by rfl) (by rfl) (by omega) (Nat.le_of_ble_eq_true rfl) ?_
        rintro _ _ _ _ _ ⟨rfl, rfl, rfl, rfl, rfl⟩ -
        refine q0 ?_
        refine aw_if_neZ (tgt := 24) dX5_quotient_19 (by decide) (by decide) (fun hc_19 => ?_) (fun hc_19 => ?_)
        · exact absurd rfl hc_19
        · refine aw_iconstZ dX5_quotient_22 ?_
          refine aw_iret dX5_quotient_23 rfl (by rfl) ?_
          exact WE.ret hw0 ⟨S, A, h, rfl, Or.inr ⟨hal, rfl, rfl⟩⟩
    · have hal : ¬ (∃ n m : Nat, n < 12 ∧ m < 12 ∧ ((x : Nat) : Int) = (n : Int) ∧ u = (m : Int) ∧ 0 < S.r n ∧ 0 < S.r m ∧ S.c n = S.c m) := fun ⟨n, k, _, hk, e1, e2, _, hk2, e3⟩ => by
        have := hno2 k hk e2
        omega
      refine AMet.of rfl rfl (Nat.le_of_ble_eq_true rfl) ?_
      show AW g mX5_quotient (d + 8) 0 [(0, .ref b), (1, .int (iZ x)), (2, .int (iZ u))] [] V sz _
      refine aw_aload_n dX5_quotient_0 (by rfl) (Or.inr ⟨_, rfl⟩) ?_
      refine aw_iload_n dX5_quotient_1 (by rfl) ?_
      refine aw_callv vX5_72 dX5_quotient_2 hb (t_find (d + 6) h ht hv) (by rfl) (by rfl) (by omega) (Nat.le_of_ble_eq_true rfl) ?_
      rintro _ _ _ _ _ ⟨rfl, rfl, rfl, rfl, rfl⟩ -
      refine q0 ?_
      refine aw_astore_n dX5_quotient_5 (by decide) (Or.inr ⟨_, rfl⟩) ?_
      refine aw_aload_n dX5_quotient_6 (by rfl) (Or.inr ⟨_, rfl⟩) ?_
      refine aw_iload_n dX5_quotient_7 (by rfl) ?_
      refine aw_callv vX5_72 dX5_quotient_8 hb (t_find (d + 6) h hu hv2) (by rfl) (by rfl) (by omega) (Nat.le_of_ble_eq_true rfl) ?_
      rintro _ _ _ _ _ ⟨rfl, rfl, rfl, rfl, rfl⟩ -
      refine q0 ?_
      refine aw_astore dX5_quotient_11 (by decide) (Or.inl rfl) ?_
      refine aw_aload_n dX5_quotient_13 (by rfl) (Or.inr ⟨_, rfl⟩) ?_
      refine aw_aload dX5_quotient_14 (by rfl) (Or.inl rfl) ?_
      refine aw_calls sX5_137 dX5_quotient_16 (t_areAlike (d + 6 + 1) (q := 0) h hv hv2 (Or.inr ⟨rfl, hal⟩)) (by rfl) (by rfl) (by omega) (Nat.le_of_ble_eq_true rfl) ?_
      rintro _ _ _ _ _ ⟨rfl, rfl, rfl, rfl, rfl⟩ -
      refine q0 ?_
      refine aw_if_neZ (tgt := 24) dX5_quotient_19 (by decide) (by decide) (fun hc_19 => ?_) (fun hc_19 => ?_)
      · exact absurd rfl hc_19
      · refine aw_iconstZ dX5_quotient_22 ?_
        refine aw_iret dX5_quotient_23 rfl (by rfl) ?_
        exact WE.ret hw0 ⟨S, A, h, rfl, Or.inr ⟨hal, rfl, rfl⟩⟩
  · have hal : ¬ (∃ n m : Nat, n < 12 ∧ m < 12 ∧ t = (n : Int) ∧ u = (m : Int) ∧ 0 < S.r n ∧ 0 < S.r m ∧ S.c n = S.c m) := fun ⟨n, k, hk, _, e1, e2, hk2, _, e3⟩ => by
      have := hno n hk e1
      omega
    rcases id hv2 with ⟨y, hy, rfl, hry, rfl⟩ | ⟨hno2, rfl⟩
    · skip
      refine AMet.of rfl rfl (Nat.le_of_ble_eq_true rfl) ?_
      show AW g mX5_quotient (d + 8) 0 [(0, .ref b), (1, .int (iZ t)), (2, .int (iZ y))] [] V sz _
      refine aw_aload_n dX5_quotient_0 (by rfl) (Or.inr ⟨_, rfl⟩) ?_
      refine aw_iload_n dX5_quotient_1 (by rfl) ?_
      refine aw_callv vX5_72 dX5_quotient_2 hb (t_find (d + 6) h ht hv) (by rfl) (by rfl) (by omega) (Nat.le_of_ble_eq_true rfl) ?_
      rintro _ _ _ _ _ ⟨rfl, rfl, rfl, rfl, rfl⟩ -
      refine q0 ?_
      refine aw_astore_n dX5_quotient_5 (by decide) (Or.inl rfl) ?_
      refine aw_aload_n dX5_quotient_6 (by rfl) (Or.inr ⟨_, rfl⟩) ?_
      refine aw_iload_n dX5_quotient_7 (by rfl) ?_
      refine aw_callv vX5_72 dX5_quotient_8 hb (t_find (d + 6) h hu hv2) (by rfl) (by rfl) (by omega) (Nat.le_of_ble_eq_true rfl) ?_
      rintro _ _ _ _ _ ⟨rfl, rfl, rfl, rfl, rfl⟩ -
      refine q0 ?_
      refine aw_astore dX5_quotient_11 (by decide) (Or.inr ⟨_, rfl⟩) ?_
      refine aw_aload_n dX5_quotient_13 (by rfl) (Or.inl rfl) ?_
      refine aw_aload dX5_quotient_14 (by rfl) (Or.inr ⟨_, rfl⟩) ?_
      refine aw_calls sX5_137 dX5_quotient_16 (t_areAlike (d + 6 + 1) (q := 0) h hv hv2 (Or.inr ⟨rfl, hal⟩)) (by rfl) (by rfl) (by omega) (Nat.le_of_ble_eq_true rfl) ?_
      rintro _ _ _ _ _ ⟨rfl, rfl, rfl, rfl, rfl⟩ -
      refine q0 ?_
      refine aw_if_neZ (tgt := 24) dX5_quotient_19 (by decide) (by decide) (fun hc_19 => ?_) (fun hc_19 => ?_)
      · exact absurd rfl hc_19
      · refine aw_iconstZ dX5_quotient_22 ?_
        refine aw_iret dX5_quotient_23 rfl (by rfl) ?_
        exact WE.ret hw0 ⟨S, A, h, rfl, Or.inr ⟨hal, rfl, rfl⟩⟩
    · skip
      refine AMet.of rfl rfl (Nat.le_of_ble_eq_true rfl) ?_
      show AW g mX5_quotient (d + 8) 0 [(0, .ref b), (1, .int (iZ t)), (2, .int (iZ u))] [] V sz _
      refine aw_aload_n dX5_quotient_0 (by rfl) (Or.inr ⟨_, rfl⟩) ?_
      refine aw_iload_n dX5_quotient_1 (by rfl) ?_
      refine aw_callv vX5_72 dX5_quotient_2 hb (t_find (d + 6) h ht hv) (by rfl) (by rfl) (by omega) (Nat.le_of_ble_eq_true rfl) ?_
      rintro _ _ _ _ _ ⟨rfl, rfl, rfl, rfl, rfl⟩ -
      refine q0 ?_
      refine aw_astore_n dX5_quotient_5 (by decide) (Or.inl rfl) ?_
      refine aw_aload_n dX5_quotient_6 (by rfl) (Or.inr ⟨_, rfl⟩) ?_
      refine aw_iload_n dX5_quotient_7 (by rfl) ?_
      refine aw_callv vX5_72 dX5_quotient_8 hb (t_find (d + 6) h hu hv2) (by rfl) (by rfl) (by omega) (Nat.le_of_ble_eq_true rfl) ?_
      rintro _ _ _ _ _ ⟨rfl, rfl, rfl, rfl, rfl⟩ -
      refine q0 ?_
      refine aw_astore dX5_quotient_11 (by decide) (Or.inl rfl) ?_
      refine aw_aload_n dX5_quotient_13 (by rfl) (Or.inl rfl) ?_
      refine aw_aload dX5_quotient_14 (by rfl) (Or.inl rfl) ?_
      refine aw_calls sX5_137 dX5_quotient_16 (t_areAlike (d + 6 + 1) (q := 0) h hv hv2 (Or.inr ⟨rfl, hal⟩)) (by rfl) (by rfl) (by omega) (Nat.le_of_ble_eq_true rfl) ?_
      rintro _ _ _ _ _ ⟨rfl, rfl, rfl, rfl, rfl⟩ -
      refine q0 ?_
      refine aw_if_neZ (tgt := 24) dX5_quotient_19 (by decide) (by decide) (fun hc_19 => ?_) (fun hc_19 => ?_)
      · exact absurd rfl hc_19
      · refine aw_iconstZ dX5_quotient_22 ?_
        refine aw_iret dX5_quotient_23 rfl (by rfl) ?_
        exact WE.ret hw0 ⟨S, A, h, rfl, Or.inr ⟨hal, rfl, rfl⟩⟩

/-! ===== the reference: turn, add, times ===== -/
theorem RX.m15 {g : GX} {mo : Nat} {V V' : AH} {zs : Nat → Int} {S : TSt} {A : ASt} {F : Nat → Int} (hR : RX g mo V zs S A) (h15 : V' (mo + 15) = some (aIz g 25 F)) (hV : ∀ a, a ≠ mo + 15 → V' a = V a) : RX g mo V' zs S A := by
  obtain ⟨-, -, -, -, -, -, ⟨TH, RR, CC, NN, HH, t1, t2, t3, t4, t5, t6⟩, -, -, o1, -⟩ := id hR
  exact hR.tabs (fun a ha => hV a (fun z => ha (Or.inr z))) ⟨F, h15⟩ ⟨(hV _ (by omega)).trans t1, (hV _ (by omega)).trans t2, (hV _ (by omega)).trans t3, (hV _ (by omega)).trans t4, (hV _ (by omega)).trans t5⟩ t6 o1
abbrev mX6_turn : MI := (yX6_turn, cX6_turn, 5, (some FieldType.boolean), noX)
theorem dX6_turn_0 : decode cX6_turn 0 = .ok (.aload_n 0, 1) := by decide +kernel
theorem dX6_turn_1 : decode cX6_turn 1 = .ok (.iload_n 1, 1) := by decide +kernel
theorem dX6_turn_2 : decode cX6_turn 2 = .ok (.invokevirtual 137, 3) := by decide +kernel
theorem dX6_turn_5 : decode cX6_turn 5 = .ok (.ifCond .ne 5, 3) := by decide +kernel
theorem dX6_turn_8 : decode cX6_turn 8 = .ok (.iconst 0, 1) := by decide +kernel
theorem dX6_turn_9 : decode cX6_turn 9 = .ok (.ireturn, 1) := by decide +kernel
theorem dX6_turn_10 : decode cX6_turn 10 = .ok (.iconst 0, 1) := by decide +kernel
theorem dX6_turn_11 : decode cX6_turn 11 = .ok (.istore_n 3, 1) := by decide +kernel
theorem dX6_turn_12 : decode cX6_turn 12 = .ok (.iload_n 3, 1) := by decide +kernel
theorem dX6_turn_13 : decode cX6_turn 13 = .ok (.iconst 5, 1) := by decide +kernel
theorem dX6_turn_14 : decode cX6_turn 14 = .ok (.if_icmp .ge 43, 3) := by decide +kernel
theorem dX6_turn_17 : decode cX6_turn 17 = .ok (.iconst 0, 1) := by decide +kernel
theorem dX6_turn_18 : decode cX6_turn 18 = .ok (.istore 4, 2) := by decide +kernel
theorem dX6_turn_20 : decode cX6_turn 20 = .ok (.iload 4, 2) := by decide +kernel
theorem dX6_turn_22 : decode cX6_turn 22 = .ok (.iconst 5, 1) := by decide +kernel
theorem dX6_turn_23 : decode cX6_turn 23 = .ok (.if_icmp .ge 28, 3) := by decide +kernel
theorem dX6_turn_26 : decode cX6_turn 26 = .ok (.aload_n 0, 1) := by decide +kernel
theorem dX6_turn_27 : decode cX6_turn 27 = .ok (.getfield 62, 3) := by decide +kernel
theorem dX6_turn_30 : decode cX6_turn 30 = .ok (.iconst 5, 1) := by decide +kernel
theorem dX6_turn_31 : decode cX6_turn 31 = .ok (.iload_n 3, 1) := by decide +kernel
theorem dX6_turn_32 : decode cX6_turn 32 = .ok (.imul, 1) := by decide +kernel
theorem dX6_turn_33 : decode cX6_turn 33 = .ok (.iload 4, 2) := by decide +kernel
theorem dX6_turn_35 : decode cX6_turn 35 = .ok (.iadd, 1) := by decide +kernel
theorem dX6_turn_36 : decode cX6_turn 36 = .ok (.aload_n 0, 1) := by decide +kernel
theorem dX6_turn_37 : decode cX6_turn 37 = .ok (.iload_n 1, 1) := by decide +kernel
theorem dX6_turn_38 : decode cX6_turn 38 = .ok (.iload 4, 2) := by decide +kernel
theorem dX6_turn_40 : decode cX6_turn 40 = .ok (.iload_n 3, 1) := by decide +kernel
theorem dX6_turn_41 : decode cX6_turn 41 = .ok (.invokevirtual 148, 3) := by decide +kernel
theorem dX6_turn_44 : decode cX6_turn 44 = .ok (.iastore, 1) := by decide +kernel
theorem dX6_turn_45 : decode cX6_turn 45 = .ok (.iinc 4 1, 3) := by decide +kernel
theorem dX6_turn_48 : decode cX6_turn 48 = .ok (.goto (-28), 3) := by decide +kernel
theorem dX6_turn_51 : decode cX6_turn 51 = .ok (.iinc 3 1, 3) := by decide +kernel
theorem dX6_turn_54 : decode cX6_turn 54 = .ok (.goto (-42), 3) := by decide +kernel
theorem dX6_turn_57 : decode cX6_turn 57 = .ok (.aload_n 0, 1) := by decide +kernel
theorem dX6_turn_58 : decode cX6_turn 58 = .ok (.iload_n 2, 1) := by decide +kernel
theorem dX6_turn_59 : decode cX6_turn 59 = .ok (.aload_n 0, 1) := by decide +kernel
theorem dX6_turn_60 : decode cX6_turn 60 = .ok (.getfield 40, 3) := by decide +kernel
theorem dX6_turn_63 : decode cX6_turn 63 = .ok (.iload_n 1, 1) := by decide +kernel
theorem dX6_turn_64 : decode cX6_turn 64 = .ok (.iaload, 1) := by decide +kernel
theorem dX6_turn_65 : decode cX6_turn 65 = .ok (.aload_n 0, 1) := by decide +kernel
theorem dX6_turn_66 : decode cX6_turn 66 = .ok (.getfield 37, 3) := by decide +kernel
theorem dX6_turn_69 : decode cX6_turn 69 = .ok (.iload_n 1, 1) := by decide +kernel
theorem dX6_turn_70 : decode cX6_turn 70 = .ok (.iaload, 1) := by decide +kernel
theorem dX6_turn_71 : decode cX6_turn 71 = .ok (.invokevirtual 183, 3) := by decide +kernel
theorem dX6_turn_74 : decode cX6_turn 74 = .ok (.ireturn, 1) := by decide +kernel
theorem tnm_in (d : Nat) {g : GX} {V0 : AH} {mo sz i : Nat} {rk kn ar ac : Int} {F : Nat → Int} {S : TSt} {x : Nat} {to : Int} {Q : AQ} (hT0 : RTb g mo V0 S) (o1 : TOK S) (hx : x < 12) (hi : i < 5) (hKK : ∀ {V : AH}, V mo = some (moO mo rk kn ar ac) → V (mo + 15) = some (aIz g 25 (mkF F (fun i j => S.N x (5 * j + i)) (5 * i + 5))) → (∀ a, a ≠ mo + 15 → V a = V0 a) → AW g mX6_turn (d + 1) 51 [(4, .int (iZ (5 : Nat))), (3, .int (iZ i)), (0, .ref mo), (1, .int (iZ x)), (2, .int (iZ to))] [] V sz Q) : ∀ (f j : Nat), j + f = 5 → ∀ {V : AH}, V mo = some (moO mo rk kn ar ac) → V (mo + 15) = some (aIz g 25 (mkF F (fun i j => S.N x (5 * j + i)) (5 * i + j))) → (∀ a, a ≠ mo + 15 → V a = V0 a) → AW g mX6_turn (d + 1) 20 [(4, .int (iZ j)), (3, .int (iZ i)), (0, .ref mo), (1, .int (iZ x)), (2, .int (iZ to))] [] V sz Q
  | 0, j, hf, V, hmo, hN, hV => by
    obtain rfl : j = 5 := by omega
    refine aw_iload dX6_turn_20 (by rfl) ?_
    refine aw_iconstZ dX6_turn_22 ?_
    refine aw_icmp_geZ (tgt := 51) dX6_turn_23 (by decide) (by omega) (by omega) (fun hc_23 => ?_) (fun hc_23 => ?_)
    · exact hKK hmo hN hV
    · exact absurd hc_23 (by omega)
  | f + 1, j, hf, V, hmo, hN, hV => by
    have IH := fun j hj => @tnm_in d g V0 mo sz i rk kn ar ac F S x to Q hT0 o1 hx hi hKK f j hj
    have hj5 : j < 5 := by omega
    have hT := hT0.kept (V' := V) (fun a h1 h2 => hV a (by omega))
    refine aw_iload dX6_turn_20 (by rfl) ?_
    refine aw_iconstZ dX6_turn_22 ?_
    refine aw_icmp_geZ (tgt := 51) dX6_turn_23 (by decide) (by omega) (by omega) (fun hc_23 => ?_) (fun hc_23 => ?_)
    · exact absurd hc_23 (by omega)
    · refine aw_aload_n dX6_turn_26 (by rfl) (Or.inr ⟨_, rfl⟩) ?_
      refine aw_get fX6_62 dX6_turn_27 hmo (by rfl) ?_
      refine aw_iconstZ dX6_turn_30 ?_
      refine aw_iload_n dX6_turn_31 (by rfl) ?_
      refine aw_imulZ dX6_turn_32 ?_
      refine aw_iload dX6_turn_33 (by rfl) ?_
      refine aw_iaddZ dX6_turn_35 ?_
      refine aw_aload_n dX6_turn_36 (by rfl) (Or.inr ⟨_, rfl⟩) ?_
      refine aw_iload_n dX6_turn_37 (by rfl) ?_
      refine aw_iload dX6_turn_38 (by rfl) ?_
      refine aw_iload_n dX6_turn_40 (by rfl) ?_
      refine aw_callv vX6_148 dX6_turn_41 hmo (m_at3 g d (t := x) (i := j) (j := i) hmo hT hx (by omega) (by omega)) (by rfl) (by rfl) (by omega) (Nat.le_of_ble_eq_true rfl) ?_
      rintro _ _ _ _ _ ⟨rfl, rfl, rfl, rfl, rfl⟩ -
      refine q0 ?_
      refine aw_iastZ (5 * i + j) dX6_turn_44 hN (by omega) (by omega) (by omega) ?_
      refine aw_iincZ dX6_turn_45 (by rfl) (by decide) ?_
      refine aw_goto (tgt := 20) dX6_turn_48 (by decide) ?_
      rw [show ((j : Int) + 1) = ((j + 1 : Nat) : Int) by omega]
      exact IH (j + 1) (by omega) ((AHu_ne (by omega)).trans hmo) (by rw [← Nat.add_assoc, ← mkF.up hj5]; exact AHu_self _ _ _) (fun a ha => (AHu_ne ha).trans (hV a ha))
theorem tnm_out (d : Nat) {g : GX} {V0 : AH} {mo sz : Nat} {rk kn ar ac : Int} {F : Nat → Int} {S : TSt} {x : Nat} {to : Int} {Q : AQ} (hT0 : RTb g mo V0 S) (o1 : TOK S) (hx : x < 12) (hKK : ∀ {V : AH}, V mo = some (moO mo rk kn ar ac) → V (mo + 15) = some (aIz g 25 (mkF F (fun i j => S.N x (5 * j + i)) (25))) → (∀ a, a ≠ mo + 15 → V a = V0 a) → AW g mX6_turn (d + 1) 57 [(3, .int (iZ (5 : Nat))), (0, .ref mo), (1, .int (iZ x)), (2, .int (iZ to))] [] V sz Q) : ∀ (f i : Nat), i + f = 5 → ∀ {V : AH}, V mo = some (moO mo rk kn ar ac) → V (mo + 15) = some (aIz g 25 (mkF F (fun i j => S.N x (5 * j + i)) (5 * i))) → (∀ a, a ≠ mo + 15 → V a = V0 a) → AW g mX6_turn (d + 1) 12 [(3, .int (iZ i)), (0, .ref mo), (1, .int (iZ x)), (2, .int (iZ to))] [] V sz Q
  | 0, i, hf, V, hmo, hN, hV => by
    obtain rfl : i = 5 := by omega
    refine aw_iload_n dX6_turn_12 (by rfl) ?_
    refine aw_iconstZ dX6_turn_13 ?_
    refine aw_icmp_geZ (tgt := 57) dX6_turn_14 (by decide) (by omega) (by omega) (fun hc_14 => ?_) (fun hc_14 => ?_)
    · exact hKK hmo hN hV
    · exact absurd hc_14 (by omega)
  | f + 1, i, hf, V, hmo, hN, hV => by
    have IH := fun i hi => @tnm_out d g V0 mo sz rk kn ar ac F S x to Q hT0 o1 hx hKK f i hi
    refine aw_iload_n dX6_turn_12 (by rfl) ?_
    refine aw_iconstZ dX6_turn_13 ?_
    refine aw_icmp_geZ (tgt := 57) dX6_turn_14 (by decide) (by omega) (by omega) (fun hc_14 => ?_) (fun hc_14 => ?_)
    · exact absurd hc_14 (by omega)
    · refine aw_iconstZ dX6_turn_17 ?_
      refine aw_istore dX6_turn_18 (by decide) ?_
      refine aw_pk [4, 3, 0, 1, 2] (by rfl) ?_
      refine tnm_in d (i := i) hT0 o1 hx (by omega) (fun {V1} hmo1 hN1 hV1 => ?_) 5 0 (by omega) hmo hN hV
      refine aw_iincZ dX6_turn_51 (by rfl) (by decide) ?_
      refine aw_goto (tgt := 12) dX6_turn_54 (by decide) ?_
      rw [show ((i : Int) + 1) = ((i + 1 : Nat) : Int) by omega]
      refine aw_pk [3, 0, 1, 2] (by rfl) ?_
      exact IH (i + 1) (by omega) hmo1 (by rw [show 5 * (i + 1) = 5 * i + 5 by omega]; exact hN1) hV1
theorem RK.cong {S : TSt} {A : ASt} {to rn cn : Nat} {vl vl2 : Mat} {q : Option Value} {S' : TSt} {A' : ASt} (h : RK S A to rn cn vl q S' A') (e : ∀ i j, i < rn → j < cn → vl i j = vl2 i j) : RK S A to rn cn vl2 q S' A' := by
  have hk : okV rn cn vl ↔ okV rn cn vl2 := ⟨fun k i j hi hj => e i j hi hj ▸ k i j hi hj, fun k i j hi hj => (e i j hi hj).symm ▸ k i j hi hj⟩
  obtain ⟨h1, ⟨h2, h3, N, H, h4, h5, h6⟩ | ⟨h2, h3, h4⟩⟩ := h
  · refine ⟨h1, Or.inl ⟨hk.mp h2, h3, N, H, h4, fun i j hi hj => ?_, h6⟩⟩
    rw [h5 i j hi hj]
    by_cases z : i < rn ∧ j < cn
    · rw [if_pos z, if_pos z]; exact e i j z.1 z.2
    · rw [if_neg z, if_neg z]
  · exact ⟨h1, Or.inr ⟨fun z => h2 (hk.mpr z), h3, h4⟩⟩
theorem m_turn (g : GX) (d : Nat) {V : AH} {mo sz : Nat} {zs : Nat → Int} {S : TSt} {A : ASt} {t to : Int} (hR : RX g mo V zs S A) (ht : R32 t) (hto : R32 to) : AMet g mX6_turn (d + 2) [.ref mo, .int (iZ t), .int (iZ to)] V sz (RE g mo V sz (fun q S' A' => (∃ x tn : Nat, x < 12 ∧ t = (x : Int) ∧ 0 < S.r x ∧ tn < 12 ∧ to = (tn : Int) ∧ RK S A tn (S.c x) (S.r x) (fun i j => S.N x (5 * j + i)) q S' A') ∨ (¬ (∃ x : Nat, x < 12 ∧ t = (x : Int) ∧ 0 < S.r x ∧ 0 ≤ to ∧ to < 12) ∧ some (.int (iZ 0)) = q ∧ S' = S ∧ A' = A))) := by
  obtain ⟨⟨rk, kn, hmo⟩, -, -, -, -, ⟨F5, a5⟩, hT, -, -, o1, -⟩ := id hR
  refine AMet.of rfl rfl (Nat.le_of_ble_eq_true rfl) ?_
  show AW g mX6_turn (d + 2) 0 [(0, .ref mo), (1, .int (iZ t)), (2, .int (iZ to))] [] V sz _
  refine aw_aload_n dX6_turn_0 (by rfl) (Or.inr ⟨_, rfl⟩) ?_
  refine aw_iload_n dX6_turn_1 (by rfl) ?_
  refine aw_callv vX6_137 dX6_turn_2 hmo (m_isTable g (d + 1) (t := t) hmo hT ht) (by rfl) (by rfl) (by omega) (Nat.le_of_ble_eq_true rfl) ?_
  rintro _ _ _ _ _ ⟨rfl, rfl, rfl, rfl, rfl⟩ -
  refine q0 ?_
  refine aw_if_neZ (tgt := 10) dX6_turn_5 (by decide) (tbZ_R _ _) (fun hc_5 => ?_) (fun hc_5 => ?_)
  · obtain ⟨x, hx, rfl, hrx⟩ := tbZ_yes hc_5
    obtain ⟨p1, p2, p3, p4, -⟩ := o1 x hx
    refine aw_iconstZ dX6_turn_10 ?_
    refine aw_istore_n dX6_turn_11 (by decide) ?_
    refine aw_pk [3, 0, 1, 2] (by rfl) ?_
    refine tnm_out (d + 1) (x := x) (F := F5) hT o1 hx (fun {V1} hmo1 hN1 hV1 => ?_) 5 0 (by omega) hmo (by rw [show 5 * 0 = 0 from rfl, mkF.nil]; exact a5) (fun _ _ => rfl)
    obtain ⟨TH1, RR1, CC1, NN1, HH1, u1, u2, u3, u4, u5, u6⟩ := hT.kept (V' := V1) (fun a h1 h2 => hV1 a (by omega))
    have hR1 := hR.m15 hN1 hV1
    refine aw_aload_n dX6_turn_57 (by rfl) (Or.inr ⟨_, rfl⟩) ?_
    refine aw_iload_n dX6_turn_58 (by rfl) ?_
    refine aw_aload_n dX6_turn_59 (by rfl) (Or.inr ⟨_, rfl⟩) ?_
    refine aw_get fX6_40 dX6_turn_60 hmo1 (by rfl) ?_
    refine aw_iload_n dX6_turn_63 (by rfl) ?_
    refine aw_ialdZ (x) dX6_turn_64 u3 (by omega) (by omega) (by omega) ?_
    refine aw_aload_n dX6_turn_65 (by rfl) (Or.inr ⟨_, rfl⟩) ?_
    refine aw_get fX6_37 dX6_turn_66 hmo1 (by rfl) ?_
    refine aw_iload_n dX6_turn_69 (by rfl) ?_
    refine aw_ialdZ (x) dX6_turn_70 u2 (by omega) (by omega) (by omega) ?_
    rw [(u6 x hx).2.1, (u6 x hx).2.2.1]
    refine aw_callv vX6_183 dX6_turn_71 hmo1 (m_comesTo g d (to := to) (r := S.c x) (c := S.r x) hR1 hto (by omega) (by omega) hN1 (fun i j hi hj => by rw [mkF.at (by omega) (by omega)]; have := p4 (5 * j + i) (by omega); omega)) (by rfl) (by rfl) (by omega) (Nat.le_of_ble_eq_true rfl) ?_
    rintro q V2 _ _ _ ⟨rfl, rfl, rfl, hV2, z2, S2, A2, hR2, hrel⟩ hq
    refine q0 ?_
    obtain ⟨vq, rfl, hvq⟩ : ∃ v : Int, q = some (.int (iZ v)) ∧ (v = 0 ∨ v = 1) := by
      rcases hrel with ⟨tn, _, _, _, ⟨_, rfl, _⟩ | ⟨_, rfl, _⟩⟩ | ⟨_, rfl, _⟩
      · exact ⟨1, rfl, by omega⟩
      · exact ⟨0, rfl, by omega⟩
      · exact ⟨0, rfl, by omega⟩
    refine aw_iret dX6_turn_74 rfl (by rcases hvq with rfl | rfl <;> rfl) ?_
    refine ⟨rfl, rfl, rfl, fun a ha => (hV2 a ha).trans (hV1 a (fun z => ha (by unfold EM; omega))), z2, S2, A2, hR2, ?_⟩
    rcases hrel with ⟨tn, htn, rfl, hrK⟩ | ⟨hno, hz, e1, e2⟩
    · refine Or.inl ⟨x, tn, hx, rfl, hrx, htn, rfl, hrK.cong (fun i j hi hj => mkF.at (i := i) (j := j) (vl := fun i j => S.N x (5 * j + i)) (by omega) (by omega))⟩
    · exact Or.inr ⟨fun ⟨_, _, _, _, h1, h2⟩ => hno ⟨h1, h2⟩, hz, e1, e2⟩
  · have hno := tbZ_no hc_5
    refine aw_iconstZ dX6_turn_8 ?_
    refine aw_iret dX6_turn_9 rfl (by rfl) ?_
    exact ⟨rfl, rfl, rfl, fun _ _ => rfl, zs, S, A, hR, Or.inr ⟨fun ⟨x, h1, h2, h3, _⟩ => by have := hno x h1 h2; omega, rfl, rfl, rfl⟩⟩
abbrev mX6_add : MI := (yX6_add, cX6_add, 7, (some FieldType.boolean), noX)
theorem dX6_add_0 : decode cX6_add 0 = .ok (.aload_n 0, 1) := by decide +kernel
theorem dX6_add_1 : decode cX6_add 1 = .ok (.iload_n 1, 1) := by decide +kernel
theorem dX6_add_2 : decode cX6_add 2 = .ok (.invokevirtual 137, 3) := by decide +kernel
theorem dX6_add_5 : decode cX6_add 5 = .ok (.ifCond .eq 41, 3) := by decide +kernel
theorem dX6_add_8 : decode cX6_add 8 = .ok (.aload_n 0, 1) := by decide +kernel
theorem dX6_add_9 : decode cX6_add 9 = .ok (.iload_n 2, 1) := by decide +kernel
theorem dX6_add_10 : decode cX6_add 10 = .ok (.invokevirtual 137, 3) := by decide +kernel
theorem dX6_add_13 : decode cX6_add 13 = .ok (.ifCond .eq 33, 3) := by decide +kernel
theorem dX6_add_16 : decode cX6_add 16 = .ok (.aload_n 0, 1) := by decide +kernel
theorem dX6_add_17 : decode cX6_add 17 = .ok (.getfield 37, 3) := by decide +kernel
theorem dX6_add_20 : decode cX6_add 20 = .ok (.iload_n 1, 1) := by decide +kernel
theorem dX6_add_21 : decode cX6_add 21 = .ok (.iaload, 1) := by decide +kernel
theorem dX6_add_22 : decode cX6_add 22 = .ok (.aload_n 0, 1) := by decide +kernel
theorem dX6_add_23 : decode cX6_add 23 = .ok (.getfield 37, 3) := by decide +kernel
theorem dX6_add_26 : decode cX6_add 26 = .ok (.iload_n 2, 1) := by decide +kernel
theorem dX6_add_27 : decode cX6_add 27 = .ok (.iaload, 1) := by decide +kernel
theorem dX6_add_28 : decode cX6_add 28 = .ok (.if_icmp .ne 18, 3) := by decide +kernel
theorem dX6_add_31 : decode cX6_add 31 = .ok (.aload_n 0, 1) := by decide +kernel
theorem dX6_add_32 : decode cX6_add 32 = .ok (.getfield 40, 3) := by decide +kernel
theorem dX6_add_35 : decode cX6_add 35 = .ok (.iload_n 1, 1) := by decide +kernel
theorem dX6_add_36 : decode cX6_add 36 = .ok (.iaload, 1) := by decide +kernel
theorem dX6_add_37 : decode cX6_add 37 = .ok (.aload_n 0, 1) := by decide +kernel
theorem dX6_add_38 : decode cX6_add 38 = .ok (.getfield 40, 3) := by decide +kernel
theorem dX6_add_41 : decode cX6_add 41 = .ok (.iload_n 2, 1) := by decide +kernel
theorem dX6_add_42 : decode cX6_add 42 = .ok (.iaload, 1) := by decide +kernel
theorem dX6_add_43 : decode cX6_add 43 = .ok (.if_icmp .eq 5, 3) := by decide +kernel
theorem dX6_add_46 : decode cX6_add 46 = .ok (.iconst 0, 1) := by decide +kernel
theorem dX6_add_47 : decode cX6_add 47 = .ok (.ireturn, 1) := by decide +kernel
theorem dX6_add_48 : decode cX6_add 48 = .ok (.iconst 0, 1) := by decide +kernel
theorem dX6_add_49 : decode cX6_add 49 = .ok (.istore 5, 2) := by decide +kernel
theorem dX6_add_51 : decode cX6_add 51 = .ok (.iload 5, 2) := by decide +kernel
theorem dX6_add_53 : decode cX6_add 53 = .ok (.iconst 5, 1) := by decide +kernel
theorem dX6_add_54 : decode cX6_add 54 = .ok (.if_icmp .ge 81, 3) := by decide +kernel
theorem dX6_add_57 : decode cX6_add 57 = .ok (.iconst 0, 1) := by decide +kernel
theorem dX6_add_58 : decode cX6_add 58 = .ok (.istore 6, 2) := by decide +kernel
theorem dX6_add_60 : decode cX6_add 60 = .ok (.iload 6, 2) := by decide +kernel
theorem dX6_add_62 : decode cX6_add 62 = .ok (.iconst 5, 1) := by decide +kernel
theorem dX6_add_63 : decode cX6_add 63 = .ok (.if_icmp .ge 66, 3) := by decide +kernel
theorem dX6_add_66 : decode cX6_add 66 = .ok (.aload_n 0, 1) := by decide +kernel
theorem dX6_add_67 : decode cX6_add 67 = .ok (.getfield 62, 3) := by decide +kernel
theorem dX6_add_70 : decode cX6_add 70 = .ok (.iconst 5, 1) := by decide +kernel
theorem dX6_add_71 : decode cX6_add 71 = .ok (.iload 5, 2) := by decide +kernel
theorem dX6_add_73 : decode cX6_add 73 = .ok (.imul, 1) := by decide +kernel
theorem dX6_add_74 : decode cX6_add 74 = .ok (.iload 6, 2) := by decide +kernel
theorem dX6_add_76 : decode cX6_add 76 = .ok (.iadd, 1) := by decide +kernel
theorem dX6_add_77 : decode cX6_add 77 = .ok (.iload_n 3, 1) := by decide +kernel
theorem dX6_add_78 : decode cX6_add 78 = .ok (.ifCond .eq 25, 3) := by decide +kernel
theorem dX6_add_81 : decode cX6_add 81 = .ok (.aload_n 0, 1) := by decide +kernel
theorem dX6_add_82 : decode cX6_add 82 = .ok (.iload_n 1, 1) := by decide +kernel
theorem dX6_add_83 : decode cX6_add 83 = .ok (.iload 5, 2) := by decide +kernel
theorem dX6_add_85 : decode cX6_add 85 = .ok (.iload 6, 2) := by decide +kernel
theorem dX6_add_87 : decode cX6_add 87 = .ok (.invokevirtual 148, 3) := by decide +kernel
theorem dX6_add_90 : decode cX6_add 90 = .ok (.aload_n 0, 1) := by decide +kernel
theorem dX6_add_91 : decode cX6_add 91 = .ok (.iload_n 2, 1) := by decide +kernel
theorem dX6_add_92 : decode cX6_add 92 = .ok (.iload 5, 2) := by decide +kernel
theorem dX6_add_94 : decode cX6_add 94 = .ok (.iload 6, 2) := by decide +kernel
theorem dX6_add_96 : decode cX6_add 96 = .ok (.invokevirtual 148, 3) := by decide +kernel
theorem dX6_add_99 : decode cX6_add 99 = .ok (.isub, 1) := by decide +kernel
theorem dX6_add_100 : decode cX6_add 100 = .ok (.goto 22, 3) := by decide +kernel
theorem dX6_add_103 : decode cX6_add 103 = .ok (.aload_n 0, 1) := by decide +kernel
theorem dX6_add_104 : decode cX6_add 104 = .ok (.iload_n 1, 1) := by decide +kernel
theorem dX6_add_105 : decode cX6_add 105 = .ok (.iload 5, 2) := by decide +kernel
theorem dX6_add_107 : decode cX6_add 107 = .ok (.iload 6, 2) := by decide +kernel
theorem dX6_add_109 : decode cX6_add 109 = .ok (.invokevirtual 148, 3) := by decide +kernel
theorem dX6_add_112 : decode cX6_add 112 = .ok (.aload_n 0, 1) := by decide +kernel
theorem dX6_add_113 : decode cX6_add 113 = .ok (.iload_n 2, 1) := by decide +kernel
theorem dX6_add_114 : decode cX6_add 114 = .ok (.iload 5, 2) := by decide +kernel
theorem dX6_add_116 : decode cX6_add 116 = .ok (.iload 6, 2) := by decide +kernel
theorem dX6_add_118 : decode cX6_add 118 = .ok (.invokevirtual 148, 3) := by decide +kernel
theorem dX6_add_121 : decode cX6_add 121 = .ok (.iadd, 1) := by decide +kernel
theorem dX6_add_122 : decode cX6_add 122 = .ok (.iastore, 1) := by decide +kernel
theorem dX6_add_123 : decode cX6_add 123 = .ok (.iinc 6 1, 3) := by decide +kernel
theorem dX6_add_126 : decode cX6_add 126 = .ok (.goto (-66), 3) := by decide +kernel
theorem dX6_add_129 : decode cX6_add 129 = .ok (.iinc 5 1, 3) := by decide +kernel
theorem dX6_add_132 : decode cX6_add 132 = .ok (.goto (-81), 3) := by decide +kernel
theorem dX6_add_135 : decode cX6_add 135 = .ok (.aload_n 0, 1) := by decide +kernel
theorem dX6_add_136 : decode cX6_add 136 = .ok (.iload 4, 2) := by decide +kernel
theorem dX6_add_138 : decode cX6_add 138 = .ok (.aload_n 0, 1) := by decide +kernel
theorem dX6_add_139 : decode cX6_add 139 = .ok (.getfield 37, 3) := by decide +kernel
theorem dX6_add_142 : decode cX6_add 142 = .ok (.iload_n 1, 1) := by decide +kernel
theorem dX6_add_143 : decode cX6_add 143 = .ok (.iaload, 1) := by decide +kernel
theorem dX6_add_144 : decode cX6_add 144 = .ok (.aload_n 0, 1) := by decide +kernel
theorem dX6_add_145 : decode cX6_add 145 = .ok (.getfield 40, 3) := by decide +kernel
theorem dX6_add_148 : decode cX6_add 148 = .ok (.iload_n 1, 1) := by decide +kernel
theorem dX6_add_149 : decode cX6_add 149 = .ok (.iaload, 1) := by decide +kernel
theorem dX6_add_150 : decode cX6_add 150 = .ok (.invokevirtual 183, 3) := by decide +kernel
theorem dX6_add_153 : decode cX6_add 153 = .ok (.ireturn, 1) := by decide +kernel
theorem adm_in (d : Nat) {g : GX} {V0 : AH} {mo sz i : Nat} {rk kn ar ac : Int} {F : Nat → Int} {S : TSt} {x y : Nat} {to lz : Int} {Q : AQ} (hT0 : RTb g mo V0 S) (o1 : TOK S) (hx : x < 12) (hy : y < 12) (hlz : lz = 0 ∨ lz = 1) (hi : i < 5) (hKK : ∀ {V : AH}, V mo = some (moO mo rk kn ar ac) → V (mo + 15) = some (aIz g 25 (mkF F (fun i j => S.N x (5 * i + j) + (if lz = 0 then S.N y (5 * i + j) else - S.N y (5 * i + j))) (5 * i + 5))) → (∀ a, a ≠ mo + 15 → V a = V0 a) → AW g mX6_add (d + 1) 129 [(6, .int (iZ (5 : Nat))), (5, .int (iZ i)), (0, .ref mo), (1, .int (iZ x)), (2, .int (iZ y)), (3, .int (iZ lz)), (4, .int (iZ to))] [] V sz Q) : ∀ (f j : Nat), j + f = 5 → ∀ {V : AH}, V mo = some (moO mo rk kn ar ac) → V (mo + 15) = some (aIz g 25 (mkF F (fun i j => S.N x (5 * i + j) + (if lz = 0 then S.N y (5 * i + j) else - S.N y (5 * i + j))) (5 * i + j))) → (∀ a, a ≠ mo + 15 → V a = V0 a) → AW g mX6_add (d + 1) 60 [(6, .int (iZ j)), (5, .int (iZ i)), (0, .ref mo), (1, .int (iZ x)), (2, .int (iZ y)), (3, .int (iZ lz)), (4, .int (iZ to))] [] V sz Q
  | 0, j, hf, V, hmo, hN, hV => by
    obtain rfl : j = 5 := by omega
    refine aw_iload dX6_add_60 (by rfl) ?_
    refine aw_iconstZ dX6_add_62 ?_
    refine aw_icmp_geZ (tgt := 129) dX6_add_63 (by decide) (by omega) (by omega) (fun hc_63 => ?_) (fun hc_63 => ?_)
    · exact hKK hmo hN hV
    · exact absurd hc_63 (by omega)
  | f + 1, j, hf, V, hmo, hN, hV => by
    have IH := fun j hj => @adm_in d g V0 mo sz i rk kn ar ac F S x y to lz Q hT0 o1 hx hy hlz hi hKK f j hj
    have hj5 : j < 5 := by omega
    have hT := hT0.kept (V' := V) (fun a h1 h2 => hV a (by omega))
    refine aw_iload dX6_add_60 (by rfl) ?_
    refine aw_iconstZ dX6_add_62 ?_
    refine aw_icmp_geZ (tgt := 129) dX6_add_63 (by decide) (by omega) (by omega) (fun hc_63 => ?_) (fun hc_63 => ?_)
    · exact absurd hc_63 (by omega)
    · refine aw_aload_n dX6_add_66 (by rfl) (Or.inr ⟨_, rfl⟩) ?_
      refine aw_get fX6_62 dX6_add_67 hmo (by rfl) ?_
      refine aw_iconstZ dX6_add_70 ?_
      refine aw_iload dX6_add_71 (by rfl) ?_
      refine aw_imulZ dX6_add_73 ?_
      refine aw_iload dX6_add_74 (by rfl) ?_
      refine aw_iaddZ dX6_add_76 ?_
      refine aw_iload_n dX6_add_77 (by rfl) ?_
      refine aw_if_eqZ (tgt := 103) dX6_add_78 (by decide) (by omega) (fun hc_78 => ?_) (fun hc_78 => ?_)
      · refine aw_aload_n dX6_add_103 (by rfl) (Or.inr ⟨_, rfl⟩) ?_
        refine aw_iload_n dX6_add_104 (by rfl) ?_
        refine aw_iload dX6_add_105 (by rfl) ?_
        refine aw_iload dX6_add_107 (by rfl) ?_
        refine aw_callv vX6_148 dX6_add_109 hmo (m_at3 g d (t := x) (i := i) (j := j) hmo hT hx (by omega) (by omega)) (by rfl) (by rfl) (by omega) (Nat.le_of_ble_eq_true rfl) ?_
        rintro _ _ _ _ _ ⟨rfl, rfl, rfl, rfl, rfl⟩ -
        refine q0 ?_
        refine aw_aload_n dX6_add_112 (by rfl) (Or.inr ⟨_, rfl⟩) ?_
        refine aw_iload_n dX6_add_113 (by rfl) ?_
        refine aw_iload dX6_add_114 (by rfl) ?_
        refine aw_iload dX6_add_116 (by rfl) ?_
        refine aw_callv vX6_148 dX6_add_118 hmo (m_at3 g d (t := y) (i := i) (j := j) hmo hT hy (by omega) (by omega)) (by rfl) (by rfl) (by omega) (Nat.le_of_ble_eq_true rfl) ?_
        rintro _ _ _ _ _ ⟨rfl, rfl, rfl, rfl, rfl⟩ -
        refine q0 ?_
        refine aw_iaddZ dX6_add_121 ?_
        first
        | (refine aw_topi (y := S.N x (5 * i + j) + (if lz = 0 then S.N y (5 * i + j) else - S.N y (5 * i + j))) (by rw [if_pos (by omega)]; try omega) ?_
           refine aw_iastZ (5 * i + j) dX6_add_122 hN (by omega) (by omega) (by omega) ?_
           refine aw_iincZ dX6_add_123 (by rfl) (by decide) ?_
           refine aw_goto (tgt := 60) dX6_add_126 (by decide) ?_
           rw [show ((j : Int) + 1) = ((j + 1 : Nat) : Int) by omega]
           exact IH (j + 1) (by omega) ((AHu_ne (by omega)).trans hmo) (by rw [← Nat.add_assoc, ← mkF.up hj5]; exact AHu_self _ _ _) (fun a ha => (AHu_ne ha).trans (hV a ha)))
        | (refine aw_topi (y := S.N x (5 * i + j) + (if lz = 0 then S.N y (5 * i + j) else - S.N y (5 * i + j))) (by rw [if_neg (by omega)]; try omega) ?_
           refine aw_iastZ (5 * i + j) dX6_add_122 hN (by omega) (by omega) (by omega) ?_
           refine aw_iincZ dX6_add_123 (by rfl) (by decide) ?_
           refine aw_goto (tgt := 60) dX6_add_126 (by decide) ?_
           rw [show ((j : Int) + 1) = ((j + 1 : Nat) : Int) by omega]
           exact IH (j + 1) (by omega) ((AHu_ne (by omega)).trans hmo) (by rw [← Nat.add_assoc, ← mkF.up hj5]; exact AHu_self _ _ _) (fun a ha => (AHu_ne ha).trans (hV a ha)))
      · refine aw_aload_n dX6_add_81 (by rfl) (Or.inr ⟨_, rfl⟩) ?_
        refine aw_iload_n dX6_add_82 (by rfl) ?_
        refine aw_iload dX6_add_83 (by rfl) ?_
        refine aw_iload dX6_add_85 (by rfl) ?_
        refine aw_callv vX6_148 dX6_add_87 hmo (m_at3 g d (t := x) (i := i) (j := j) hmo hT hx (by omega) (by omega)) (by rfl) (by rfl) (by omega) (Nat.le_of_ble_eq_true rfl) ?_
        rintro _ _ _ _ _ ⟨rfl, rfl, rfl, rfl, rfl⟩ -
        refine q0 ?_
        refine aw_aload_n dX6_add_90 (by rfl) (Or.inr ⟨_, rfl⟩) ?_
        refine aw_iload_n dX6_add_91 (by rfl) ?_
        refine aw_iload dX6_add_92 (by rfl) ?_
        refine aw_iload dX6_add_94 (by rfl) ?_
        refine aw_callv vX6_148 dX6_add_96 hmo (m_at3 g d (t := y) (i := i) (j := j) hmo hT hy (by omega) (by omega)) (by rfl) (by rfl) (by omega) (Nat.le_of_ble_eq_true rfl) ?_
        rintro _ _ _ _ _ ⟨rfl, rfl, rfl, rfl, rfl⟩ -
        refine q0 ?_
        refine aw_isubZ dX6_add_99 ?_
        refine aw_goto (tgt := 122) dX6_add_100 (by decide) ?_
        first
        | (refine aw_topi (y := S.N x (5 * i + j) + (if lz = 0 then S.N y (5 * i + j) else - S.N y (5 * i + j))) (by rw [if_pos (by omega)]; try omega) ?_
           refine aw_iastZ (5 * i + j) dX6_add_122 hN (by omega) (by omega) (by omega) ?_
           refine aw_iincZ dX6_add_123 (by rfl) (by decide) ?_
           refine aw_goto (tgt := 60) dX6_add_126 (by decide) ?_
           rw [show ((j : Int) + 1) = ((j + 1 : Nat) : Int) by omega]
           exact IH (j + 1) (by omega) ((AHu_ne (by omega)).trans hmo) (by rw [← Nat.add_assoc, ← mkF.up hj5]; exact AHu_self _ _ _) (fun a ha => (AHu_ne ha).trans (hV a ha)))
        | (refine aw_topi (y := S.N x (5 * i + j) + (if lz = 0 then S.N y (5 * i + j) else - S.N y (5 * i + j))) (by rw [if_neg (by omega)]; try omega) ?_
           refine aw_iastZ (5 * i + j) dX6_add_122 hN (by omega) (by omega) (by omega) ?_
           refine aw_iincZ dX6_add_123 (by rfl) (by decide) ?_
           refine aw_goto (tgt := 60) dX6_add_126 (by decide) ?_
           rw [show ((j : Int) + 1) = ((j + 1 : Nat) : Int) by omega]
           exact IH (j + 1) (by omega) ((AHu_ne (by omega)).trans hmo) (by rw [← Nat.add_assoc, ← mkF.up hj5]; exact AHu_self _ _ _) (fun a ha => (AHu_ne ha).trans (hV a ha)))
theorem adm_out (d : Nat) {g : GX} {V0 : AH} {mo sz : Nat} {rk kn ar ac : Int} {F : Nat → Int} {S : TSt} {x y : Nat} {to lz : Int} {Q : AQ} (hT0 : RTb g mo V0 S) (o1 : TOK S) (hx : x < 12) (hy : y < 12) (hlz : lz = 0 ∨ lz = 1) (hKK : ∀ {V : AH}, V mo = some (moO mo rk kn ar ac) → V (mo + 15) = some (aIz g 25 (mkF F (fun i j => S.N x (5 * i + j) + (if lz = 0 then S.N y (5 * i + j) else - S.N y (5 * i + j))) (25))) → (∀ a, a ≠ mo + 15 → V a = V0 a) → AW g mX6_add (d + 1) 135 [(5, .int (iZ (5 : Nat))), (0, .ref mo), (1, .int (iZ x)), (2, .int (iZ y)), (3, .int (iZ lz)), (4, .int (iZ to))] [] V sz Q) : ∀ (f i : Nat), i + f = 5 → ∀ {V : AH}, V mo = some (moO mo rk kn ar ac) → V (mo + 15) = some (aIz g 25 (mkF F (fun i j => S.N x (5 * i + j) + (if lz = 0 then S.N y (5 * i + j) else - S.N y (5 * i + j))) (5 * i))) → (∀ a, a ≠ mo + 15 → V a = V0 a) → AW g mX6_add (d + 1) 51 [(5, .int (iZ i)), (0, .ref mo), (1, .int (iZ x)), (2, .int (iZ y)), (3, .int (iZ lz)), (4, .int (iZ to))] [] V sz Q
  | 0, i, hf, V, hmo, hN, hV => by
    obtain rfl : i = 5 := by omega
    refine aw_iload dX6_add_51 (by rfl) ?_
    refine aw_iconstZ dX6_add_53 ?_
    refine aw_icmp_geZ (tgt := 135) dX6_add_54 (by decide) (by omega) (by omega) (fun hc_54 => ?_) (fun hc_54 => ?_)
    · exact hKK hmo hN hV
    · exact absurd hc_54 (by omega)
  | f + 1, i, hf, V, hmo, hN, hV => by
    have IH := fun i hi => @adm_out d g V0 mo sz rk kn ar ac F S x y to lz Q hT0 o1 hx hy hlz hKK f i hi
    refine aw_iload dX6_add_51 (by rfl) ?_
    refine aw_iconstZ dX6_add_53 ?_
    refine aw_icmp_geZ (tgt := 135) dX6_add_54 (by decide) (by omega) (by omega) (fun hc_54 => ?_) (fun hc_54 => ?_)
    · exact absurd hc_54 (by omega)
    · refine aw_iconstZ dX6_add_57 ?_
      refine aw_istore dX6_add_58 (by decide) ?_
      refine aw_pk [6, 5, 0, 1, 2, 3, 4] (by rfl) ?_
      refine adm_in d (i := i) hT0 o1 hx hy hlz (by omega) (fun {V1} hmo1 hN1 hV1 => ?_) 5 0 (by omega) hmo hN hV
      refine aw_iincZ dX6_add_129 (by rfl) (by decide) ?_
      refine aw_goto (tgt := 51) dX6_add_132 (by decide) ?_
      rw [show ((i : Int) + 1) = ((i + 1 : Nat) : Int) by omega]
      refine aw_pk [5, 0, 1, 2, 3, 4] (by rfl) ?_
      exact IH (i + 1) (by omega) hmo1 (by rw [show 5 * (i + 1) = 5 * i + 5 by omega]; exact hN1) hV1
theorem m_add (g : GX) (d : Nat) {V : AH} {mo sz : Nat} {zs : Nat → Int} {S : TSt} {A : ASt} {t u to lz : Int} (hR : RX g mo V zs S A) (ht : R32 t) (hu : R32 u) (hto : R32 to) (hlz : lz = 0 ∨ lz = 1) : AMet g mX6_add (d + 2) [.ref mo, .int (iZ t), .int (iZ u), .int (iZ lz), .int (iZ to)] V sz (RE g mo V sz (fun q S' A' => (∃ x y tn : Nat, x < 12 ∧ y < 12 ∧ t = (x : Int) ∧ u = (y : Int) ∧ 0 < S.r x ∧ 0 < S.r y ∧ tn < 12 ∧ to = (tn : Int) ∧ S.r x = S.r y ∧ S.c x = S.c y ∧ RK S A tn (S.r x) (S.c x) (fun i j => S.N x (5 * i + j) + (if lz = 0 then S.N y (5 * i + j) else - S.N y (5 * i + j))) q S' A') ∨ (¬ (∃ x y : Nat, x < 12 ∧ y < 12 ∧ t = (x : Int) ∧ u = (y : Int) ∧ 0 < S.r x ∧ 0 < S.r y ∧ 0 ≤ to ∧ to < 12 ∧ S.r x = S.r y ∧ S.c x = S.c y) ∧ some (.int (iZ 0)) = q ∧ S' = S ∧ A' = A))) := by
  obtain ⟨⟨rk, kn, hmo⟩, -, -, -, -, ⟨F5, a5⟩, hT, -, -, o1, -⟩ := id hR
  obtain ⟨TH, RR, CC, NN, HH, t1, t2, t3, t4, t5, t6⟩ := id hT
  refine AMet.of rfl rfl (Nat.le_of_ble_eq_true rfl) ?_
  show AW g mX6_add (d + 2) 0 [(0, .ref mo), (1, .int (iZ t)), (2, .int (iZ u)), (3, .int (iZ lz)), (4, .int (iZ to))] [] V sz _
  refine aw_aload_n dX6_add_0 (by rfl) (Or.inr ⟨_, rfl⟩) ?_
  refine aw_iload_n dX6_add_1 (by rfl) ?_
  refine aw_callv vX6_137 dX6_add_2 hmo (m_isTable g (d + 1) (t := t) hmo hT ht) (by rfl) (by rfl) (by omega) (Nat.le_of_ble_eq_true rfl) ?_
  rintro _ _ _ _ _ ⟨rfl, rfl, rfl, rfl, rfl⟩ -
  refine q0 ?_
  refine aw_if_eqZ (tgt := 46) dX6_add_5 (by decide) (tbZ_R _ _) (fun hc_5 => ?_) (fun hc_5 => ?_)
  · have hno := tbZ_no hc_5
    have hNO : ¬ (∃ x y : Nat, x < 12 ∧ y < 12 ∧ t = (x : Int) ∧ u = (y : Int) ∧ 0 < S.r x ∧ 0 < S.r y ∧ 0 ≤ to ∧ to < 12 ∧ S.r x = S.r y ∧ S.c x = S.c y) := fun ⟨x, y, h1, h2, h3, h4, h5, h6, h7⟩ => by have := hno x h1 h3; omega
    refine aw_iconstZ dX6_add_46 ?_
    refine aw_iret dX6_add_47 rfl (by rfl) ?_
    exact ⟨rfl, rfl, rfl, fun _ _ => rfl, zs, S, A, hR, Or.inr ⟨hNO, rfl, rfl, rfl⟩⟩
  · obtain ⟨n, hn, rfl, hrn⟩ := tbZ_yes hc_5
    obtain ⟨p1, p2, p3, p4, -⟩ := o1 n hn
    refine aw_aload_n dX6_add_8 (by rfl) (Or.inr ⟨_, rfl⟩) ?_
    refine aw_iload_n dX6_add_9 (by rfl) ?_
    refine aw_callv vX6_137 dX6_add_10 hmo (m_isTable g (d + 1) (t := u) hmo hT hu) (by rfl) (by rfl) (by omega) (Nat.le_of_ble_eq_true rfl) ?_
    rintro _ _ _ _ _ ⟨rfl, rfl, rfl, rfl, rfl⟩ -
    refine q0 ?_
    refine aw_if_eqZ (tgt := 46) dX6_add_13 (by decide) (tbZ_R _ _) (fun hc_13 => ?_) (fun hc_13 => ?_)
    · have hno := tbZ_no hc_13
      have hNO : ¬ (∃ x y : Nat, x < 12 ∧ y < 12 ∧ (n : Int) = (x : Int) ∧ u = (y : Int) ∧ 0 < S.r x ∧ 0 < S.r y ∧ 0 ≤ to ∧ to < 12 ∧ S.r x = S.r y ∧ S.c x = S.c y) := fun ⟨x, y, h1, h2, h3, h4, h5, h6, h7⟩ => by have := hno y h2 h4; omega
      refine aw_iconstZ dX6_add_46 ?_
      refine aw_iret dX6_add_47 rfl (by rfl) ?_
      exact ⟨rfl, rfl, rfl, fun _ _ => rfl, zs, S, A, hR, Or.inr ⟨hNO, rfl, rfl, rfl⟩⟩
    · obtain ⟨k, hk, rfl, hrk⟩ := tbZ_yes hc_13
      obtain ⟨y1, y2, y3, y4, -⟩ := o1 k hk
      refine aw_aload_n dX6_add_16 (by rfl) (Or.inr ⟨_, rfl⟩) ?_
      refine aw_get fX6_37 dX6_add_17 hmo (by rfl) ?_
      refine aw_iload_n dX6_add_20 (by rfl) ?_
      refine aw_ialdZ (n) dX6_add_21 t2 (by omega) (by omega) (by omega) ?_
      refine aw_aload_n dX6_add_22 (by rfl) (Or.inr ⟨_, rfl⟩) ?_
      refine aw_get fX6_37 dX6_add_23 hmo (by rfl) ?_
      refine aw_iload_n dX6_add_26 (by rfl) ?_
      refine aw_ialdZ (k) dX6_add_27 t2 (by omega) (by omega) (by omega) ?_
      rw [(t6 n hn).2.1, (t6 k hk).2.1]
      refine aw_icmp_neZ (tgt := 46) dX6_add_28 (by decide) (by omega) (by omega) (fun hc_28 => ?_) (fun hc_28 => ?_)
      · have hNO : ¬ (∃ x y : Nat, x < 12 ∧ y < 12 ∧ (n : Int) = (x : Int) ∧ (k : Int) = (y : Int) ∧ 0 < S.r x ∧ 0 < S.r y ∧ 0 ≤ to ∧ to < 12 ∧ S.r x = S.r y ∧ S.c x = S.c y) := by
          rintro ⟨x, y, h1, h2, h3, h4, h5, h6, h7, h8, h9⟩
          obtain rfl : x = n := by omega
          obtain rfl : y = k := by omega
          omega
        refine aw_iconstZ dX6_add_46 ?_
        refine aw_iret dX6_add_47 rfl (by rfl) ?_
        exact ⟨rfl, rfl, rfl, fun _ _ => rfl, zs, S, A, hR, Or.inr ⟨hNO, rfl, rfl, rfl⟩⟩
      · refine aw_aload_n dX6_add_31 (by rfl) (Or.inr ⟨_, rfl⟩) ?_
        refine aw_get fX6_40 dX6_add_32 hmo (by rfl) ?_
        refine aw_iload_n dX6_add_35 (by rfl) ?_
        refine aw_ialdZ (n) dX6_add_36 t3 (by omega) (by omega) (by omega) ?_
        refine aw_aload_n dX6_add_37 (by rfl) (Or.inr ⟨_, rfl⟩) ?_
        refine aw_get fX6_40 dX6_add_38 hmo (by rfl) ?_
        refine aw_iload_n dX6_add_41 (by rfl) ?_
        refine aw_ialdZ (k) dX6_add_42 t3 (by omega) (by omega) (by omega) ?_
        rw [(t6 n hn).2.2.1, (t6 k hk).2.2.1]
        refine aw_icmp_eqZ (tgt := 48) dX6_add_43 (by decide) (by omega) (by omega) (fun hc_43 => ?_) (fun hc_43 => ?_)
        · refine aw_iconstZ dX6_add_48 ?_
          refine aw_istore dX6_add_49 (by decide) ?_
          refine aw_pk [5, 0, 1, 2, 3, 4] (by rfl) ?_
          refine adm_out (d + 1) (x := n) (y := k) (F := F5) hT o1 hn hk hlz (fun {V1} hmo1 hN1 hV1 => ?_) 5 0 (by omega) hmo (by rw [show 5 * 0 = 0 from rfl, mkF.nil]; exact a5) (fun _ _ => rfl)
          obtain ⟨TH1, RR1, CC1, NN1, HH1, u1, u2, u3, u4, u5, u6⟩ := hT.kept (V' := V1) (fun a h1 h2 => hV1 a (by omega))
          have hR1 := hR.m15 hN1 hV1
          refine aw_aload_n dX6_add_135 (by rfl) (Or.inr ⟨_, rfl⟩) ?_
          refine aw_iload dX6_add_136 (by rfl) ?_
          refine aw_aload_n dX6_add_138 (by rfl) (Or.inr ⟨_, rfl⟩) ?_
          refine aw_get fX6_37 dX6_add_139 hmo1 (by rfl) ?_
          refine aw_iload_n dX6_add_142 (by rfl) ?_
          refine aw_ialdZ (n) dX6_add_143 u2 (by omega) (by omega) (by omega) ?_
          refine aw_aload_n dX6_add_144 (by rfl) (Or.inr ⟨_, rfl⟩) ?_
          refine aw_get fX6_40 dX6_add_145 hmo1 (by rfl) ?_
          refine aw_iload_n dX6_add_148 (by rfl) ?_
          refine aw_ialdZ (n) dX6_add_149 u3 (by omega) (by omega) (by omega) ?_
          rw [(u6 n hn).2.1, (u6 n hn).2.2.1]
          refine aw_callv vX6_183 dX6_add_150 hmo1 (m_comesTo g d (to := to) (r := S.r n) (c := S.c n) hR1 hto (by omega) (by omega) hN1 (fun i j hi hj => by rw [mkF.at (by omega) (by omega)]; have := p4 (5 * i + j) (by omega); have := y4 (5 * i + j) (by omega); split <;> omega)) (by rfl) (by rfl) (by omega) (Nat.le_of_ble_eq_true rfl) ?_
          rintro q V2 _ _ _ ⟨rfl, rfl, rfl, hV2, z2, S2, A2, hR2, hrel⟩ hq
          refine q0 ?_
          obtain ⟨vq, rfl, hvq⟩ : ∃ v : Int, q = some (.int (iZ v)) ∧ (v = 0 ∨ v = 1) := by
            rcases hrel with ⟨tn, _, _, _, ⟨_, rfl, _⟩ | ⟨_, rfl, _⟩⟩ | ⟨_, rfl, _⟩
            · exact ⟨1, rfl, by omega⟩
            · exact ⟨0, rfl, by omega⟩
            · exact ⟨0, rfl, by omega⟩
          refine aw_iret dX6_add_153 rfl (by rcases hvq with rfl | rfl <;> rfl) ?_
          refine ⟨rfl, rfl, rfl, fun a ha => (hV2 a ha).trans (hV1 a (fun z => ha (by unfold EM; omega))), z2, S2, A2, hR2, ?_⟩
          rcases hrel with ⟨tn, htn, rfl, hrK⟩ | ⟨hno, hz, e1, e2⟩
          · refine Or.inl ⟨n, k, tn, hn, hk, rfl, rfl, hrn, hrk, htn, rfl, by omega, by omega, hrK.cong (fun i j hi hj => mkF.at (i := i) (j := j) (vl := fun i j => S.N n (5 * i + j) + (if lz = 0 then S.N k (5 * i + j) else - S.N k (5 * i + j))) (by omega) (by omega))⟩
          · exact Or.inr ⟨fun ⟨_, _, _, _, _, _, _, _, h1, h2, _⟩ => hno ⟨h1, h2⟩, hz, e1, e2⟩
        · have hNO : ¬ (∃ x y : Nat, x < 12 ∧ y < 12 ∧ (n : Int) = (x : Int) ∧ (k : Int) = (y : Int) ∧ 0 < S.r x ∧ 0 < S.r y ∧ 0 ≤ to ∧ to < 12 ∧ S.r x = S.r y ∧ S.c x = S.c y) := by
            rintro ⟨x, y, h1, h2, h3, h4, h5, h6, h7, h8, h9⟩
            obtain rfl : x = n := by omega
            obtain rfl : y = k := by omega
            omega
          refine aw_iconstZ dX6_add_46 ?_
          refine aw_iret dX6_add_47 rfl (by rfl) ?_
          exact ⟨rfl, rfl, rfl, fun _ _ => rfl, zs, S, A, hR, Or.inr ⟨hNO, rfl, rfl, rfl⟩⟩
abbrev mX6_times : MI := (yX6_times, cX6_times, 7, (some FieldType.boolean), noX)
theorem dX6_times_0 : decode cX6_times 0 = .ok (.aload_n 0, 1) := by decide +kernel
theorem dX6_times_1 : decode cX6_times 1 = .ok (.iload_n 1, 1) := by decide +kernel
theorem dX6_times_2 : decode cX6_times 2 = .ok (.invokevirtual 137, 3) := by decide +kernel
theorem dX6_times_5 : decode cX6_times 5 = .ok (.ifCond .eq 26, 3) := by decide +kernel
theorem dX6_times_8 : decode cX6_times 8 = .ok (.aload_n 0, 1) := by decide +kernel
theorem dX6_times_9 : decode cX6_times 9 = .ok (.iload_n 2, 1) := by decide +kernel
theorem dX6_times_10 : decode cX6_times 10 = .ok (.invokevirtual 137, 3) := by decide +kernel
theorem dX6_times_13 : decode cX6_times 13 = .ok (.ifCond .eq 18, 3) := by decide +kernel
theorem dX6_times_16 : decode cX6_times 16 = .ok (.aload_n 0, 1) := by decide +kernel
theorem dX6_times_17 : decode cX6_times 17 = .ok (.getfield 40, 3) := by decide +kernel
theorem dX6_times_20 : decode cX6_times 20 = .ok (.iload_n 1, 1) := by decide +kernel
theorem dX6_times_21 : decode cX6_times 21 = .ok (.iaload, 1) := by decide +kernel
theorem dX6_times_22 : decode cX6_times 22 = .ok (.aload_n 0, 1) := by decide +kernel
theorem dX6_times_23 : decode cX6_times 23 = .ok (.getfield 37, 3) := by decide +kernel
theorem dX6_times_26 : decode cX6_times 26 = .ok (.iload_n 2, 1) := by decide +kernel
theorem dX6_times_27 : decode cX6_times 27 = .ok (.iaload, 1) := by decide +kernel
theorem dX6_times_28 : decode cX6_times 28 = .ok (.if_icmp .eq 5, 3) := by decide +kernel
theorem dX6_times_31 : decode cX6_times 31 = .ok (.iconst 0, 1) := by decide +kernel
theorem dX6_times_32 : decode cX6_times 32 = .ok (.ireturn, 1) := by decide +kernel
theorem dX6_times_33 : decode cX6_times 33 = .ok (.iconst 0, 1) := by decide +kernel
theorem dX6_times_34 : decode cX6_times 34 = .ok (.istore 4, 2) := by decide +kernel
theorem dX6_times_36 : decode cX6_times 36 = .ok (.iload 4, 2) := by decide +kernel
theorem dX6_times_38 : decode cX6_times 38 = .ok (.iconst 5, 1) := by decide +kernel
theorem dX6_times_39 : decode cX6_times 39 = .ok (.if_icmp .ge 91, 3) := by decide +kernel
theorem dX6_times_42 : decode cX6_times 42 = .ok (.iconst 0, 1) := by decide +kernel
theorem dX6_times_43 : decode cX6_times 43 = .ok (.istore 5, 2) := by decide +kernel
theorem dX6_times_45 : decode cX6_times 45 = .ok (.iload 5, 2) := by decide +kernel
theorem dX6_times_47 : decode cX6_times 47 = .ok (.iconst 5, 1) := by decide +kernel
theorem dX6_times_48 : decode cX6_times 48 = .ok (.if_icmp .ge 76, 3) := by decide +kernel
theorem dX6_times_51 : decode cX6_times 51 = .ok (.aload_n 0, 1) := by decide +kernel
theorem dX6_times_52 : decode cX6_times 52 = .ok (.getfield 62, 3) := by decide +kernel
theorem dX6_times_55 : decode cX6_times 55 = .ok (.iconst 5, 1) := by decide +kernel
theorem dX6_times_56 : decode cX6_times 56 = .ok (.iload 4, 2) := by decide +kernel
theorem dX6_times_58 : decode cX6_times 58 = .ok (.imul, 1) := by decide +kernel
theorem dX6_times_59 : decode cX6_times 59 = .ok (.iload 5, 2) := by decide +kernel
theorem dX6_times_61 : decode cX6_times 61 = .ok (.iadd, 1) := by decide +kernel
theorem dX6_times_62 : decode cX6_times 62 = .ok (.iconst 0, 1) := by decide +kernel
theorem dX6_times_63 : decode cX6_times 63 = .ok (.iastore, 1) := by decide +kernel
theorem dX6_times_64 : decode cX6_times 64 = .ok (.iconst 0, 1) := by decide +kernel
theorem dX6_times_65 : decode cX6_times 65 = .ok (.istore 6, 2) := by decide +kernel
theorem dX6_times_67 : decode cX6_times 67 = .ok (.iload 6, 2) := by decide +kernel
theorem dX6_times_69 : decode cX6_times 69 = .ok (.aload_n 0, 1) := by decide +kernel
theorem dX6_times_70 : decode cX6_times 70 = .ok (.getfield 40, 3) := by decide +kernel
theorem dX6_times_73 : decode cX6_times 73 = .ok (.iload_n 1, 1) := by decide +kernel
theorem dX6_times_74 : decode cX6_times 74 = .ok (.iaload, 1) := by decide +kernel
theorem dX6_times_75 : decode cX6_times 75 = .ok (.if_icmp .ge 43, 3) := by decide +kernel
theorem dX6_times_78 : decode cX6_times 78 = .ok (.aload_n 0, 1) := by decide +kernel
theorem dX6_times_79 : decode cX6_times 79 = .ok (.getfield 62, 3) := by decide +kernel
theorem dX6_times_82 : decode cX6_times 82 = .ok (.iconst 5, 1) := by decide +kernel
theorem dX6_times_83 : decode cX6_times 83 = .ok (.iload 4, 2) := by decide +kernel
theorem dX6_times_85 : decode cX6_times 85 = .ok (.imul, 1) := by decide +kernel
theorem dX6_times_86 : decode cX6_times 86 = .ok (.iload 5, 2) := by decide +kernel
theorem dX6_times_88 : decode cX6_times 88 = .ok (.iadd, 1) := by decide +kernel
theorem dX6_times_89 : decode cX6_times 89 = .ok (.dup2, 1) := by decide +kernel
theorem dX6_times_90 : decode cX6_times 90 = .ok (.iaload, 1) := by decide +kernel
theorem dX6_times_91 : decode cX6_times 91 = .ok (.aload_n 0, 1) := by decide +kernel
theorem dX6_times_92 : decode cX6_times 92 = .ok (.iload_n 1, 1) := by decide +kernel
theorem dX6_times_93 : decode cX6_times 93 = .ok (.iload 4, 2) := by decide +kernel
theorem dX6_times_95 : decode cX6_times 95 = .ok (.iload 6, 2) := by decide +kernel
theorem dX6_times_97 : decode cX6_times 97 = .ok (.invokevirtual 148, 3) := by decide +kernel
theorem dX6_times_100 : decode cX6_times 100 = .ok (.aload_n 0, 1) := by decide +kernel
theorem dX6_times_101 : decode cX6_times 101 = .ok (.iload_n 2, 1) := by decide +kernel
theorem dX6_times_102 : decode cX6_times 102 = .ok (.iload 6, 2) := by decide +kernel
theorem dX6_times_104 : decode cX6_times 104 = .ok (.iload 5, 2) := by decide +kernel
theorem dX6_times_106 : decode cX6_times 106 = .ok (.invokevirtual 148, 3) := by decide +kernel
theorem dX6_times_109 : decode cX6_times 109 = .ok (.imul, 1) := by decide +kernel
theorem dX6_times_110 : decode cX6_times 110 = .ok (.iadd, 1) := by decide +kernel
theorem dX6_times_111 : decode cX6_times 111 = .ok (.iastore, 1) := by decide +kernel
theorem dX6_times_112 : decode cX6_times 112 = .ok (.iinc 6 1, 3) := by decide +kernel
theorem dX6_times_115 : decode cX6_times 115 = .ok (.goto (-48), 3) := by decide +kernel
theorem dX6_times_118 : decode cX6_times 118 = .ok (.iinc 5 1, 3) := by decide +kernel
theorem dX6_times_121 : decode cX6_times 121 = .ok (.goto (-76), 3) := by decide +kernel
theorem dX6_times_124 : decode cX6_times 124 = .ok (.iinc 4 1, 3) := by decide +kernel
theorem dX6_times_127 : decode cX6_times 127 = .ok (.goto (-91), 3) := by decide +kernel
theorem dX6_times_130 : decode cX6_times 130 = .ok (.aload_n 0, 1) := by decide +kernel
theorem dX6_times_131 : decode cX6_times 131 = .ok (.iload_n 3, 1) := by decide +kernel
theorem dX6_times_132 : decode cX6_times 132 = .ok (.aload_n 0, 1) := by decide +kernel
theorem dX6_times_133 : decode cX6_times 133 = .ok (.getfield 37, 3) := by decide +kernel
theorem dX6_times_136 : decode cX6_times 136 = .ok (.iload_n 1, 1) := by decide +kernel
theorem dX6_times_137 : decode cX6_times 137 = .ok (.iaload, 1) := by decide +kernel
theorem dX6_times_138 : decode cX6_times 138 = .ok (.aload_n 0, 1) := by decide +kernel
theorem dX6_times_139 : decode cX6_times 139 = .ok (.getfield 40, 3) := by decide +kernel
theorem dX6_times_142 : decode cX6_times 142 = .ok (.iload_n 2, 1) := by decide +kernel
theorem dX6_times_143 : decode cX6_times 143 = .ok (.iaload, 1) := by decide +kernel
theorem dX6_times_144 : decode cX6_times 144 = .ok (.invokevirtual 183, 3) := by decide +kernel
theorem dX6_times_147 : decode cX6_times 147 = .ok (.ireturn, 1) := by decide +kernel
theorem upF_up {F : Nat → Int} {k : Nat} {x y : Int} : upF (upF F k x) k y = upF F k y := by
  funext q
  unfold upF
  by_cases e : q = k
  · rw [if_pos e, if_pos e]
  · rw [if_neg e, if_neg e, if_neg e]
theorem tmm_k (d : Nat) {g : GX} {V0 : AH} {mo sz i j : Nat} {rk kn ar ac : Int} {F : Nat → Int} {S : TSt} {x y : Nat} {to : Int} {Q : AQ} (hT0 : RTb g mo V0 S) (o1 : TOK S) (hx : x < 12) (hy : y < 12) (hxy : S.c x = S.r y) (hi : i < 5) (hj : j < 5) (hKK : ∀ {V : AH}, V mo = some (moO mo rk kn ar ac) → V (mo + 15) = some (aIz g 25 (upF F (5 * i + j) (Sg (fun k => S.N x (5 * i + k) * S.N y (5 * k + j)) (S.c x)))) → (∀ a, a ≠ mo + 15 → V a = V0 a) → AW g mX6_times (d + 1) 118 [(6, .int (iZ (S.c x))), (5, .int (iZ j)), (4, .int (iZ i)), (0, .ref mo), (1, .int (iZ x)), (2, .int (iZ y)), (3, .int (iZ to))] [] V sz Q) : ∀ (yy k : Nat), k + yy = S.c x → ∀ {V : AH}, V mo = some (moO mo rk kn ar ac) → V (mo + 15) = some (aIz g 25 (upF F (5 * i + j) (Sg (fun k => S.N x (5 * i + k) * S.N y (5 * k + j)) (k)))) → (∀ a, a ≠ mo + 15 → V a = V0 a) → AW g mX6_times (d + 1) 67 [(6, .int (iZ k)), (5, .int (iZ j)), (4, .int (iZ i)), (0, .ref mo), (1, .int (iZ x)), (2, .int (iZ y)), (3, .int (iZ to))] [] V sz Q
  | 0, k, hyy, V, hmo, hN, hV => by
    obtain rfl : k = S.c x := by omega
    have hT := hT0.kept (V' := V) (fun a h1 h2 => hV a (by omega))
    obtain ⟨TH, RR, CC, NN, HH, t1, t2, t3, t4, t5, t6⟩ := id hT
    have hc5 := (o1 x hx).2.1
    refine aw_iload dX6_times_67 (by rfl) ?_
    refine aw_aload_n dX6_times_69 (by rfl) (Or.inr ⟨_, rfl⟩) ?_
    refine aw_get fX6_40 dX6_times_70 hmo (by rfl) ?_
    refine aw_iload_n dX6_times_73 (by rfl) ?_
    refine aw_ialdZ (x) dX6_times_74 t3 (by omega) (by omega) (by omega) ?_
    rw [(t6 x hx).2.2.1]
    refine aw_icmp_geZ (tgt := 118) dX6_times_75 (by decide) (by omega) (by omega) (fun hc_75 => ?_) (fun hc_75 => ?_)
    · exact hKK hmo hN hV
    · exact absurd hc_75 (by omega)
  | yy + 1, k, hyy, V, hmo, hN, hV => by
    have IH := fun k hk => @tmm_k d g V0 mo sz i j rk kn ar ac F S x y to Q hT0 o1 hx hy hxy hi hj hKK yy k hk
    have hT := hT0.kept (V' := V) (fun a h1 h2 => hV a (by omega))
    obtain ⟨TH, RR, CC, NN, HH, t1, t2, t3, t4, t5, t6⟩ := id hT
    have hc5 := (o1 x hx).2.1
    refine aw_iload dX6_times_67 (by rfl) ?_
    refine aw_aload_n dX6_times_69 (by rfl) (Or.inr ⟨_, rfl⟩) ?_
    refine aw_get fX6_40 dX6_times_70 hmo (by rfl) ?_
    refine aw_iload_n dX6_times_73 (by rfl) ?_
    refine aw_ialdZ (x) dX6_times_74 t3 (by omega) (by omega) (by omega) ?_
    rw [(t6 x hx).2.2.1]
    refine aw_icmp_geZ (tgt := 118) dX6_times_75 (by decide) (by omega) (by omega) (fun hc_75 => ?_) (fun hc_75 => ?_)
    · exact absurd hc_75 (by omega)
    · refine aw_aload_n dX6_times_78 (by rfl) (Or.inr ⟨_, rfl⟩) ?_
      refine aw_get fX6_62 dX6_times_79 hmo (by rfl) ?_
      refine aw_iconstZ dX6_times_82 ?_
      refine aw_iload dX6_times_83 (by rfl) ?_
      refine aw_imulZ dX6_times_85 ?_
      refine aw_iload dX6_times_86 (by rfl) ?_
      refine aw_iaddZ dX6_times_88 ?_
      refine aw_dup2 dX6_times_89 rfl rfl ?_
      refine aw_ialdZ (5 * i + j) dX6_times_90 hN (by omega) (by omega) (by omega) ?_
      rw [upF_self]
      refine aw_aload_n dX6_times_91 (by rfl) (Or.inr ⟨_, rfl⟩) ?_
      refine aw_iload_n dX6_times_92 (by rfl) ?_
      refine aw_iload dX6_times_93 (by rfl) ?_
      refine aw_iload dX6_times_95 (by rfl) ?_
      refine aw_callv vX6_148 dX6_times_97 hmo (m_at3 g d (t := x) (i := i) (j := k) hmo hT hx (by omega) (by omega)) (by rfl) (by rfl) (by omega) (Nat.le_of_ble_eq_true rfl) ?_
      rintro _ _ _ _ _ ⟨rfl, rfl, rfl, rfl, rfl⟩ -
      refine q0 ?_
      refine aw_aload_n dX6_times_100 (by rfl) (Or.inr ⟨_, rfl⟩) ?_
      refine aw_iload_n dX6_times_101 (by rfl) ?_
      refine aw_iload dX6_times_102 (by rfl) ?_
      refine aw_iload dX6_times_104 (by rfl) ?_
      refine aw_callv vX6_148 dX6_times_106 hmo (m_at3 g d (t := y) (i := k) (j := j) hmo hT hy (by omega) (by omega)) (by rfl) (by rfl) (by omega) (Nat.le_of_ble_eq_true rfl) ?_
      rintro _ _ _ _ _ ⟨rfl, rfl, rfl, rfl, rfl⟩ -
      refine q0 ?_
      refine aw_imulZ dX6_times_109 ?_
      refine aw_iaddZ dX6_times_110 ?_
      refine aw_iastZ (5 * i + j) dX6_times_111 hN (by omega) (by omega) (by omega) ?_
      rw [upF_up]
      refine aw_iincZ dX6_times_112 (by rfl) (by decide) ?_
      refine aw_goto (tgt := 67) dX6_times_115 (by decide) ?_
      rw [show ((k : Int) + 1) = ((k + 1 : Nat) : Int) by omega]
      exact IH (k + 1) (by omega) ((AHu_ne (by omega)).trans hmo) (AHu_self _ _ _) (fun a ha => (AHu_ne ha).trans (hV a ha))
theorem tmm_in (d : Nat) {g : GX} {V0 : AH} {mo sz i : Nat} {rk kn ar ac : Int} {F : Nat → Int} {S : TSt} {x y : Nat} {to : Int} {Q : AQ} (hT0 : RTb g mo V0 S) (o1 : TOK S) (hx : x < 12) (hy : y < 12) (hxy : S.c x = S.r y) (hi : i < 5) (hKK : ∀ {V : AH}, V mo = some (moO mo rk kn ar ac) → V (mo + 15) = some (aIz g 25 (mkF F (fun i j => Sg (fun k => S.N x (5 * i + k) * S.N y (5 * k + j)) (S.r y)) (5 * i + 5))) → (∀ a, a ≠ mo + 15 → V a = V0 a) → AW g mX6_times (d + 1) 124 [(5, .int (iZ (5 : Nat))), (4, .int (iZ i)), (0, .ref mo), (1, .int (iZ x)), (2, .int (iZ y)), (3, .int (iZ to))] [] V sz Q) : ∀ (f j : Nat), j + f = 5 → ∀ {V : AH}, V mo = some (moO mo rk kn ar ac) → V (mo + 15) = some (aIz g 25 (mkF F (fun i j => Sg (fun k => S.N x (5 * i + k) * S.N y (5 * k + j)) (S.r y)) (5 * i + j))) → (∀ a, a ≠ mo + 15 → V a = V0 a) → AW g mX6_times (d + 1) 45 [(5, .int (iZ j)), (4, .int (iZ i)), (0, .ref mo), (1, .int (iZ x)), (2, .int (iZ y)), (3, .int (iZ to))] [] V sz Q
  | 0, j, hf, V, hmo, hN, hV => by
    obtain rfl : j = 5 := by omega
    refine aw_iload dX6_times_45 (by rfl) ?_
    refine aw_iconstZ dX6_times_47 ?_
    refine aw_icmp_geZ (tgt := 124) dX6_times_48 (by decide) (by omega) (by omega) (fun hc_48 => ?_) (fun hc_48 => ?_)
    · exact hKK hmo hN hV
    · exact absurd hc_48 (by omega)
  | f + 1, j, hf, V, hmo, hN, hV => by
    have IH := fun j hj => @tmm_in d g V0 mo sz i rk kn ar ac F S x y to Q hT0 o1 hx hy hxy hi hKK f j hj
    have hj5 : j < 5 := by omega
    have hT := hT0.kept (V' := V) (fun a h1 h2 => hV a (by omega))
    refine aw_iload dX6_times_45 (by rfl) ?_
    refine aw_iconstZ dX6_times_47 ?_
    refine aw_icmp_geZ (tgt := 124) dX6_times_48 (by decide) (by omega) (by omega) (fun hc_48 => ?_) (fun hc_48 => ?_)
    · exact absurd hc_48 (by omega)
    · refine aw_aload_n dX6_times_51 (by rfl) (Or.inr ⟨_, rfl⟩) ?_
      refine aw_get fX6_62 dX6_times_52 hmo (by rfl) ?_
      refine aw_iconstZ dX6_times_55 ?_
      refine aw_iload dX6_times_56 (by rfl) ?_
      refine aw_imulZ dX6_times_58 ?_
      refine aw_iload dX6_times_59 (by rfl) ?_
      refine aw_iaddZ dX6_times_61 ?_
      refine aw_iconstZ dX6_times_62 ?_
      refine aw_iastZ (5 * i + j) dX6_times_63 hN (by omega) (by omega) (by omega) ?_
      refine aw_iconstZ dX6_times_64 ?_
      refine aw_istore dX6_times_65 (by decide) ?_
      refine aw_pk [6, 5, 4, 0, 1, 2, 3] (by rfl) ?_
      refine tmm_k d (V0 := V0) hT0 o1 hx hy hxy hi hj5 (fun {V1} hmo1 hN1 hV1 => ?_) (S.c x) 0 (by omega) ((AHu_ne (by omega)).trans hmo) (AHu_self _ _ _) (fun a ha => (AHu_ne ha).trans (hV a ha))
      refine aw_iincZ dX6_times_118 (by rfl) (by decide) ?_
      refine aw_goto (tgt := 45) dX6_times_121 (by decide) ?_
      rw [show ((j : Int) + 1) = ((j + 1 : Nat) : Int) by omega]
      refine aw_pk [5, 4, 0, 1, 2, 3] (by rfl) ?_
      exact IH (j + 1) (by omega) hmo1 (by rw [← Nat.add_assoc, ← mkF.up hj5]; rw [hxy] at hN1; exact hN1) hV1
theorem tmm_out (d : Nat) {g : GX} {V0 : AH} {mo sz : Nat} {rk kn ar ac : Int} {F : Nat → Int} {S : TSt} {x y : Nat} {to : Int} {Q : AQ} (hT0 : RTb g mo V0 S) (o1 : TOK S) (hx : x < 12) (hy : y < 12) (hxy : S.c x = S.r y) (hKK : ∀ {V : AH}, V mo = some (moO mo rk kn ar ac) → V (mo + 15) = some (aIz g 25 (mkF F (fun i j => Sg (fun k => S.N x (5 * i + k) * S.N y (5 * k + j)) (S.r y)) (25))) → (∀ a, a ≠ mo + 15 → V a = V0 a) → AW g mX6_times (d + 1) 130 [(4, .int (iZ (5 : Nat))), (0, .ref mo), (1, .int (iZ x)), (2, .int (iZ y)), (3, .int (iZ to))] [] V sz Q) : ∀ (f i : Nat), i + f = 5 → ∀ {V : AH}, V mo = some (moO mo rk kn ar ac) → V (mo + 15) = some (aIz g 25 (mkF F (fun i j => Sg (fun k => S.N x (5 * i + k) * S.N y (5 * k + j)) (S.r y)) (5 * i))) → (∀ a, a ≠ mo + 15 → V a = V0 a) → AW g mX6_times (d + 1) 36 [(4, .int (iZ i)), (0, .ref mo), (1, .int (iZ x)), (2, .int (iZ y)), (3, .int (iZ to))] [] V sz Q
  | 0, i, hf, V, hmo, hN, hV => by
    obtain rfl : i = 5 := by omega
    refine aw_iload dX6_times_36 (by rfl) ?_
    refine aw_iconstZ dX6_times_38 ?_
    refine aw_icmp_geZ (tgt := 130) dX6_times_39 (by decide) (by omega) (by omega) (fun hc_39 => ?_) (fun hc_39 => ?_)
    · exact hKK hmo hN hV
    · exact absurd hc_39 (by omega)
  | f + 1, i, hf, V, hmo, hN, hV => by
    have IH := fun i hi => @tmm_out d g V0 mo sz rk kn ar ac F S x y to Q hT0 o1 hx hy hxy hKK f i hi
    refine aw_iload dX6_times_36 (by rfl) ?_
    refine aw_iconstZ dX6_times_38 ?_
    refine aw_icmp_geZ (tgt := 130) dX6_times_39 (by decide) (by omega) (by omega) (fun hc_39 => ?_) (fun hc_39 => ?_)
    · exact absurd hc_39 (by omega)
    · refine aw_iconstZ dX6_times_42 ?_
      refine aw_istore dX6_times_43 (by decide) ?_
      refine aw_pk [5, 4, 0, 1, 2, 3] (by rfl) ?_
      refine tmm_in d (i := i) hT0 o1 hx hy hxy (by omega) (fun {V1} hmo1 hN1 hV1 => ?_) 5 0 (by omega) hmo hN hV
      refine aw_iincZ dX6_times_124 (by rfl) (by decide) ?_
      refine aw_goto (tgt := 36) dX6_times_127 (by decide) ?_
      rw [show ((i : Int) + 1) = ((i + 1 : Nat) : Int) by omega]
      refine aw_pk [4, 0, 1, 2, 3] (by rfl) ?_
      exact IH (i + 1) (by omega) hmo1 (by rw [show 5 * (i + 1) = 5 * i + 5 by omega]; exact hN1) hV1
theorem sum_ab {f : Nat → Int} {n : Nat} {B : Int} (hf : ∀ q, q < n → ab (f q) ≤ B) : ab (Sg f n) ≤ n * B := by
  induction n with
  | zero => show ab 0 ≤ _; unfold ab; simp
  | succ n ih =>
    have h1 := ih (fun q hq => hf q (by omega))
    have h2 := hf n (by omega)
    show ab (Sg f n + f n) ≤ _
    have h3 : ab (Sg f n + f n) ≤ ab (Sg f n) + ab (f n) := by unfold ab; omega
    have h4 : ((n + 1 : Nat) : Int) * B = n * B + B := by rw [show ((n + 1 : Nat) : Int) = (n : Int) + 1 by omega, Int.add_mul, Int.one_mul]
    omega
theorem sum_R {f : Nat → Int} {n : Nat} (hn : n ≤ 5) (hf : ∀ q, q < n → ab (f q) ≤ 1000000) : R32 (Sg f n) := by
  have h1 := sum_ab hf
  have h2 : (n : Int) * 1000000 ≤ 5000000 := by omega
  unfold ab at h1
  omega
theorem m_times (g : GX) (d : Nat) {V : AH} {mo sz : Nat} {zs : Nat → Int} {S : TSt} {A : ASt} {t u to : Int} (hR : RX g mo V zs S A) (ht : R32 t) (hu : R32 u) (hto : R32 to) : AMet g mX6_times (d + 2) [.ref mo, .int (iZ t), .int (iZ u), .int (iZ to)] V sz (RE g mo V sz (fun q S' A' => (∃ x y tn : Nat, x < 12 ∧ y < 12 ∧ t = (x : Int) ∧ u = (y : Int) ∧ 0 < S.r x ∧ 0 < S.r y ∧ tn < 12 ∧ to = (tn : Int) ∧ S.c x = S.r y ∧ RK S A tn (S.r x) (S.c y) (fun i j => Sg (fun k => S.N x (5 * i + k) * S.N y (5 * k + j)) (S.r y)) q S' A') ∨ (¬ (∃ x y : Nat, x < 12 ∧ y < 12 ∧ t = (x : Int) ∧ u = (y : Int) ∧ 0 < S.r x ∧ 0 < S.r y ∧ 0 ≤ to ∧ to < 12 ∧ S.c x = S.r y) ∧ some (.int (iZ 0)) = q ∧ S' = S ∧ A' = A))) := by
  obtain ⟨⟨rk, kn, hmo⟩, -, -, -, -, ⟨F5, a5⟩, hT, -, -, o1, -⟩ := id hR
  obtain ⟨TH, RR, CC, NN, HH, t1, t2, t3, t4, t5, t6⟩ := id hT
  refine AMet.of rfl rfl (Nat.le_of_ble_eq_true rfl) ?_
  show AW g mX6_times (d + 2) 0 [(0, .ref mo), (1, .int (iZ t)), (2, .int (iZ u)), (3, .int (iZ to))] [] V sz _
  refine aw_aload_n dX6_times_0 (by rfl) (Or.inr ⟨_, rfl⟩) ?_
  refine aw_iload_n dX6_times_1 (by rfl) ?_
  refine aw_callv vX6_137 dX6_times_2 hmo (m_isTable g (d + 1) (t := t) hmo hT ht) (by rfl) (by rfl) (by omega) (Nat.le_of_ble_eq_true rfl) ?_
  rintro _ _ _ _ _ ⟨rfl, rfl, rfl, rfl, rfl⟩ -
  refine q0 ?_
  refine aw_if_eqZ (tgt := 31) dX6_times_5 (by decide) (tbZ_R _ _) (fun hc_5 => ?_) (fun hc_5 => ?_)
  · have hno := tbZ_no hc_5
    have hNO : ¬ (∃ x y : Nat, x < 12 ∧ y < 12 ∧ t = (x : Int) ∧ u = (y : Int) ∧ 0 < S.r x ∧ 0 < S.r y ∧ 0 ≤ to ∧ to < 12 ∧ S.c x = S.r y) := fun ⟨x, y, h1, h2, h3, h4, h5, h6, h7⟩ => by have := hno x h1 h3; omega
    refine aw_iconstZ dX6_times_31 ?_
    refine aw_iret dX6_times_32 rfl (by rfl) ?_
    exact ⟨rfl, rfl, rfl, fun _ _ => rfl, zs, S, A, hR, Or.inr ⟨hNO, rfl, rfl, rfl⟩⟩
  · obtain ⟨n, hn, rfl, hrn⟩ := tbZ_yes hc_5
    obtain ⟨p1, p2, p3, p4, -⟩ := o1 n hn
    refine aw_aload_n dX6_times_8 (by rfl) (Or.inr ⟨_, rfl⟩) ?_
    refine aw_iload_n dX6_times_9 (by rfl) ?_
    refine aw_callv vX6_137 dX6_times_10 hmo (m_isTable g (d + 1) (t := u) hmo hT hu) (by rfl) (by rfl) (by omega) (Nat.le_of_ble_eq_true rfl) ?_
    rintro _ _ _ _ _ ⟨rfl, rfl, rfl, rfl, rfl⟩ -
    refine q0 ?_
    refine aw_if_eqZ (tgt := 31) dX6_times_13 (by decide) (tbZ_R _ _) (fun hc_13 => ?_) (fun hc_13 => ?_)
    · have hno := tbZ_no hc_13
      have hNO : ¬ (∃ x y : Nat, x < 12 ∧ y < 12 ∧ (n : Int) = (x : Int) ∧ u = (y : Int) ∧ 0 < S.r x ∧ 0 < S.r y ∧ 0 ≤ to ∧ to < 12 ∧ S.c x = S.r y) := fun ⟨x, y, h1, h2, h3, h4, h5, h6, h7⟩ => by have := hno y h2 h4; omega
      refine aw_iconstZ dX6_times_31 ?_
      refine aw_iret dX6_times_32 rfl (by rfl) ?_
      exact ⟨rfl, rfl, rfl, fun _ _ => rfl, zs, S, A, hR, Or.inr ⟨hNO, rfl, rfl, rfl⟩⟩
    · obtain ⟨k, hk, rfl, hrk⟩ := tbZ_yes hc_13
      obtain ⟨y1, y2, y3, y4, -⟩ := o1 k hk
      refine aw_aload_n dX6_times_16 (by rfl) (Or.inr ⟨_, rfl⟩) ?_
      refine aw_get fX6_40 dX6_times_17 hmo (by rfl) ?_
      refine aw_iload_n dX6_times_20 (by rfl) ?_
      refine aw_ialdZ (n) dX6_times_21 t3 (by omega) (by omega) (by omega) ?_
      refine aw_aload_n dX6_times_22 (by rfl) (Or.inr ⟨_, rfl⟩) ?_
      refine aw_get fX6_37 dX6_times_23 hmo (by rfl) ?_
      refine aw_iload_n dX6_times_26 (by rfl) ?_
      refine aw_ialdZ (k) dX6_times_27 t2 (by omega) (by omega) (by omega) ?_
      rw [(t6 n hn).2.2.1, (t6 k hk).2.1]
      refine aw_icmp_eqZ (tgt := 33) dX6_times_28 (by decide) (by omega) (by omega) (fun hc_28 => ?_) (fun hc_28 => ?_)
      · refine aw_iconstZ dX6_times_33 ?_
        refine aw_istore dX6_times_34 (by decide) ?_
        refine aw_pk [4, 0, 1, 2, 3] (by rfl) ?_
        refine tmm_out (d + 1) (x := n) (y := k) (F := F5) hT o1 hn hk (by omega) (fun {V1} hmo1 hN1 hV1 => ?_) 5 0 (by omega) hmo (by rw [show 5 * 0 = 0 from rfl, mkF.nil]; exact a5) (fun _ _ => rfl)
        obtain ⟨TH1, RR1, CC1, NN1, HH1, u1, u2, u3, u4, u5, u6⟩ := hT.kept (V' := V1) (fun a h1 h2 => hV1 a (by omega))
        have hR1 := hR.m15 hN1 hV1
        refine aw_aload_n dX6_times_130 (by rfl) (Or.inr ⟨_, rfl⟩) ?_
        refine aw_iload_n dX6_times_131 (by rfl) ?_
        refine aw_aload_n dX6_times_132 (by rfl) (Or.inr ⟨_, rfl⟩) ?_
        refine aw_get fX6_37 dX6_times_133 hmo1 (by rfl) ?_
        refine aw_iload_n dX6_times_136 (by rfl) ?_
        refine aw_ialdZ (n) dX6_times_137 u2 (by omega) (by omega) (by omega) ?_
        refine aw_aload_n dX6_times_138 (by rfl) (Or.inr ⟨_, rfl⟩) ?_
        refine aw_get fX6_40 dX6_times_139 hmo1 (by rfl) ?_
        refine aw_iload_n dX6_times_142 (by rfl) ?_
        refine aw_ialdZ (k) dX6_times_143 u3 (by omega) (by omega) (by omega) ?_
        rw [(u6 n hn).2.1, (u6 k hk).2.2.1]
        refine aw_callv vX6_183 dX6_times_144 hmo1 (m_comesTo g d (to := to) (r := S.r n) (c := S.c k) hR1 hto (by omega) (by omega) hN1 (fun i j hi hj => by rw [mkF.at (by omega) (by omega)]; exact sum_R (by omega) (fun q hq => tm_ab (p4 _ (by omega)) (y4 _ (by omega))))) (by rfl) (by rfl) (by omega) (Nat.le_of_ble_eq_true rfl) ?_
        rintro q V2 _ _ _ ⟨rfl, rfl, rfl, hV2, z2, S2, A2, hR2, hrel⟩ hq
        refine q0 ?_
        obtain ⟨vq, rfl, hvq⟩ : ∃ v : Int, q = some (.int (iZ v)) ∧ (v = 0 ∨ v = 1) := by
          rcases hrel with ⟨tn, _, _, _, ⟨_, rfl, _⟩ | ⟨_, rfl, _⟩⟩ | ⟨_, rfl, _⟩
          · exact ⟨1, rfl, by omega⟩
          · exact ⟨0, rfl, by omega⟩
          · exact ⟨0, rfl, by omega⟩
        refine aw_iret dX6_times_147 rfl (by rcases hvq with rfl | rfl <;> rfl) ?_
        refine ⟨rfl, rfl, rfl, fun a ha => (hV2 a ha).trans (hV1 a (fun z => ha (by unfold EM; omega))), z2, S2, A2, hR2, ?_⟩
        rcases hrel with ⟨tn, htn, rfl, hrK⟩ | ⟨hno, hz, e1, e2⟩
        · refine Or.inl ⟨n, k, tn, hn, hk, rfl, rfl, hrn, hrk, htn, rfl, by omega, hrK.cong (fun i j hi hj => mkF.at (i := i) (j := j) (vl := fun i j => Sg (fun q => S.N n (5 * i + q) * S.N k (5 * q + j)) (S.r k)) (by omega) (by omega))⟩
        · exact Or.inr ⟨fun ⟨_, _, _, _, _, _, _, _, h1, h2, _⟩ => hno ⟨h1, h2⟩, hz, e1, e2⟩
      · have hNO : ¬ (∃ x y : Nat, x < 12 ∧ y < 12 ∧ (n : Int) = (x : Int) ∧ (k : Int) = (y : Int) ∧ 0 < S.r x ∧ 0 < S.r y ∧ 0 ≤ to ∧ to < 12 ∧ S.c x = S.r y) := by
          rintro ⟨x, y, h1, h2, h3, h4, h5, h6, h7, h8, h9⟩
          obtain rfl : x = n := by omega
          obtain rfl : y = k := by omega
          omega
        refine aw_iconstZ dX6_times_31 ?_
        refine aw_iret dX6_times_32 rfl (by rfl) ?_
        exact ⟨rfl, rfl, rfl, fun _ _ => rfl, zs, S, A, hR, Or.inr ⟨hNO, rfl, rfl, rfl⟩⟩

/-! ===== the reference: tells, worthOf, cofactor, worth ===== -/
theorem bt16 : ∀ s : Fin 32, ∀ c : Fin 5, (c : Nat) < rkb s 5 → psb s c < 5 := by decide +kernel
abbrev mX6_tells : MI := (yX6_tells, cX6_tells, 4, none, noX)
theorem dX6_tells_0 : decode cX6_tells 0 = .ok (.iconst 0, 1) := by decide +kernel
theorem dX6_tells_1 : decode cX6_tells 1 = .ok (.istore_n 2, 1) := by decide +kernel
theorem dX6_tells_2 : decode cX6_tells 2 = .ok (.iconst 0, 1) := by decide +kernel
theorem dX6_tells_3 : decode cX6_tells 3 = .ok (.istore_n 3, 1) := by decide +kernel
theorem dX6_tells_4 : decode cX6_tells 4 = .ok (.iload_n 3, 1) := by decide +kernel
theorem dX6_tells_5 : decode cX6_tells 5 = .ok (.iconst 5, 1) := by decide +kernel
theorem dX6_tells_6 : decode cX6_tells 6 = .ok (.if_icmp .ge 27, 3) := by decide +kernel
theorem dX6_tells_9 : decode cX6_tells 9 = .ok (.iload_n 1, 1) := by decide +kernel
theorem dX6_tells_10 : decode cX6_tells 10 = .ok (.iload_n 3, 1) := by decide +kernel
theorem dX6_tells_11 : decode cX6_tells 11 = .ok (.ishr, 1) := by decide +kernel
theorem dX6_tells_12 : decode cX6_tells 12 = .ok (.iconst 1, 1) := by decide +kernel
theorem dX6_tells_13 : decode cX6_tells 13 = .ok (.iand, 1) := by decide +kernel
theorem dX6_tells_14 : decode cX6_tells 14 = .ok (.ifCond .ne 6, 3) := by decide +kernel
theorem dX6_tells_17 : decode cX6_tells 17 = .ok (.goto 10, 3) := by decide +kernel
theorem dX6_tells_20 : decode cX6_tells 20 = .ok (.aload_n 0, 1) := by decide +kernel
theorem dX6_tells_21 : decode cX6_tells 21 = .ok (.iload_n 2, 1) := by decide +kernel
theorem dX6_tells_22 : decode cX6_tells 22 = .ok (.iload_n 3, 1) := by decide +kernel
theorem dX6_tells_23 : decode cX6_tells 23 = .ok (.iastore, 1) := by decide +kernel
theorem dX6_tells_24 : decode cX6_tells 24 = .ok (.iinc 2 1, 3) := by decide +kernel
theorem dX6_tells_27 : decode cX6_tells 27 = .ok (.iinc 3 1, 3) := by decide +kernel
theorem dX6_tells_30 : decode cX6_tells 30 = .ok (.goto (-26), 3) := by decide +kernel
theorem dX6_tells_33 : decode cX6_tells 33 = .ok (.return_, 1) := by decide +kernel
theorem tl_loop (g : GX) (d : Nat) {V0 : AH} {sz p s : Nat} (hs : s < 32) : ∀ (f k : Nat), k + f = 5 → ∀ {V : AH} {F : Nat → Int}, (∀ a, a ≠ p → V a = V0 a) → V p = some (aIz g 5 F) → (∀ c, c < rkb s k → F c = (psb s c : Int)) → AW g mX6_tells d 4 [(3, .int (iZ (k : Int))), (2, .int (iZ (rkb s k : Nat))), (0, .ref p), (1, .int (iZ (s : Int)))] [] V sz (VX V0 sz (fun a => a = p) (fun r V' => none = r ∧ ∃ F : Nat → Int, V' p = some (aIz g 5 F) ∧ ∀ c, c < rkb s 5 → F c = (psb s c : Int)))
  | 0, k, hf, V, F, hV, hF, hI => by
    obtain rfl : k = 5 := by omega
    refine aw_iload_n dX6_tells_4 (by rfl) ?_
    refine aw_iconstZ dX6_tells_5 ?_
    refine aw_icmp_geZ (tgt := 33) dX6_tells_6 (by decide) (by omega) (by omega) (fun hc_6 => ?_) (fun hc_6 => ?_)
    · refine aw_ret dX6_tells_33 rfl ?_
      exact ⟨rfl, rfl, rfl, hV, rfl, F, hF, hI⟩
    · exact absurd hc_6 (by omega)
  | f + 1, k, hf, V, F, hV, hF, hI => by
    have IH := fun k hk => @tl_loop g d V0 sz p s hs f k hk
    have b6 : s / 2 ^ k % 2 < 2 := Nat.mod_lt _ (by omega)
    have b7 : rkb s (k + 1) = rkb s k + s / 2 ^ k % 2 := rfl
    have b9 : rkb s k ≤ k := rkb_le s k
    refine aw_iload_n dX6_tells_4 (by rfl) ?_
    refine aw_iconstZ dX6_tells_5 ?_
    refine aw_icmp_geZ (tgt := 33) dX6_tells_6 (by decide) (by omega) (by omega) (fun hc_6 => ?_) (fun hc_6 => ?_)
    · exact absurd hc_6 (by omega)
    · refine aw_iload_n dX6_tells_9 (by rfl) ?_
      refine aw_iload_n dX6_tells_10 (by rfl) ?_
      refine aw_ishrZ k dX6_tells_11 rfl (by omega) (by omega) (by omega) ?_
      refine aw_iconstZ dX6_tells_12 ?_
      refine aw_iand1Z dX6_tells_13 ?_
      refine aw_topi (y := ((s / 2 ^ k % 2 : Nat) : Int)) (by rw [Int.natCast_emod, Int.natCast_ediv, Int.natCast_pow]; rfl) ?_
      refine aw_if_neZ (tgt := 20) dX6_tells_14 (by decide) (by omega) (fun hc_14 => ?_) (fun hc_14 => ?_)
      · refine aw_aload_n dX6_tells_20 (by rfl) (Or.inr ⟨_, rfl⟩) ?_
        refine aw_iload_n dX6_tells_21 (by rfl) ?_
        refine aw_iload_n dX6_tells_22 (by rfl) ?_
        refine aw_iastZ (rkb s k) dX6_tells_23 hF (by omega) (by omega) (by omega) ?_
        refine aw_iincZ dX6_tells_24 (by rfl) (by decide) ?_
        refine aw_iincZ dX6_tells_27 (by rfl) (by decide) ?_
        refine aw_goto (tgt := 4) dX6_tells_30 (by decide) ?_
        rw [show ((k : Int) + 1) = ((k + 1 : Nat) : Int) by omega]
        first
        | (rw [show ((rkb s k : Int) + 1) = ((rkb s (k + 1) : Nat) : Int) by omega]
           refine aw_pk [3, 2, 0, 1] (by rfl) ?_
           refine IH (k + 1) (by omega) (fun a ha => (AHu_ne ha).trans (hV a ha)) (AHu_self ..) (fun c hc => ?_)
           by_cases e : c = rkb s k
           · have hb : s / 2 ^ k % 2 = 1 := by omega
             have h1 : psb s (rkb s k) = k := (bt1 ⟨s, hs⟩ ⟨k, by omega⟩ hb).1
             rw [e, upF_self, h1]
           · rw [upF_ne _ _ e]; exact hI c (by omega))
        | (rw [show rkb s k = rkb s (k + 1) by omega]
           refine aw_pk [3, 2, 0, 1] (by rfl) ?_
           exact IH (k + 1) (by omega) hV hF (fun c hc => hI c (by omega)))
      · refine aw_goto (tgt := 27) dX6_tells_17 (by decide) ?_
        refine aw_iincZ dX6_tells_27 (by rfl) (by decide) ?_
        refine aw_goto (tgt := 4) dX6_tells_30 (by decide) ?_
        rw [show ((k : Int) + 1) = ((k + 1 : Nat) : Int) by omega]
        first
        | (rw [show ((rkb s k : Int) + 1) = ((rkb s (k + 1) : Nat) : Int) by omega]
           refine aw_pk [3, 2, 0, 1] (by rfl) ?_
           refine IH (k + 1) (by omega) (fun a ha => (AHu_ne ha).trans (hV a ha)) (AHu_self ..) (fun c hc => ?_)
           by_cases e : c = rkb s k
           · have hb : s / 2 ^ k % 2 = 1 := by omega
             have h1 : psb s (rkb s k) = k := (bt1 ⟨s, hs⟩ ⟨k, by omega⟩ hb).1
             rw [e, upF_self, h1]
           · rw [upF_ne _ _ e]; exact hI c (by omega))
        | (rw [show rkb s k = rkb s (k + 1) by omega]
           refine aw_pk [3, 2, 0, 1] (by rfl) ?_
           exact IH (k + 1) (by omega) hV hF (fun c hc => hI c (by omega)))
theorem m_tellB (g : GX) (d : Nat) {V : AH} {sz p s : Nat} {F : Nat → Int} (hs : s < 32) (hF : V p = some (aIz g 5 F)) : AMet g mX6_tells d [.ref p, .int (iZ (s : Int))] V sz (VX V sz (fun a => a = p) (fun r V' => none = r ∧ ∃ F : Nat → Int, V' p = some (aIz g 5 F) ∧ ∀ c, c < rkb s 5 → F c = (psb s c : Int))) := by
  refine AMet.of rfl rfl (Nat.le_of_ble_eq_true rfl) ?_
  show AW g mX6_tells d 0 [(0, .ref p), (1, .int (iZ (s : Int)))] [] V sz _
  refine aw_iconstZ dX6_tells_0 ?_
  refine aw_istore_n dX6_tells_1 (by decide) ?_
  refine aw_iconstZ dX6_tells_2 ?_
  refine aw_istore_n dX6_tells_3 (by decide) ?_
  refine aw_pk [3, 2, 0, 1] (by rfl) ?_
  exact tl_loop g d hs 5 0 (by omega) (fun _ _ => rfl) hF (fun c hc => absurd hc (by show ¬ c < 0; omega))
abbrev mX6_worthOf : MI := (yX6_worthOf, cX6_worthOf, 2, (some FieldType.long), noX)
theorem dX6_worthOf_0 : decode cX6_worthOf 0 = .ok (.aload_n 0, 1) := by decide +kernel
theorem dX6_worthOf_1 : decode cX6_worthOf 1 = .ok (.getfield 49, 3) := by decide +kernel
theorem dX6_worthOf_4 : decode cX6_worthOf 4 = .ok (.bipush 31, 2) := by decide +kernel
theorem dX6_worthOf_6 : decode cX6_worthOf 6 = .ok (.invokestatic 169, 3) := by decide +kernel
theorem dX6_worthOf_9 : decode cX6_worthOf 9 = .ok (.aload_n 0, 1) := by decide +kernel
theorem dX6_worthOf_10 : decode cX6_worthOf 10 = .ok (.getfield 52, 3) := by decide +kernel
theorem dX6_worthOf_13 : decode cX6_worthOf 13 = .ok (.bipush 31, 2) := by decide +kernel
theorem dX6_worthOf_15 : decode cX6_worthOf 15 = .ok (.invokestatic 169, 3) := by decide +kernel
theorem dX6_worthOf_18 : decode cX6_worthOf 18 = .ok (.aload_n 0, 1) := by decide +kernel
theorem dX6_worthOf_19 : decode cX6_worthOf 19 = .ok (.iload_n 1, 1) := by decide +kernel
theorem dX6_worthOf_20 : decode cX6_worthOf 20 = .ok (.aload_n 0, 1) := by decide +kernel
theorem dX6_worthOf_21 : decode cX6_worthOf 21 = .ok (.getfield 37, 3) := by decide +kernel
theorem dX6_worthOf_24 : decode cX6_worthOf 24 = .ok (.iload_n 1, 1) := by decide +kernel
theorem dX6_worthOf_25 : decode cX6_worthOf 25 = .ok (.iaload, 1) := by decide +kernel
theorem dX6_worthOf_26 : decode cX6_worthOf 26 = .ok (.invokevirtual 173, 3) := by decide +kernel
theorem dX6_worthOf_29 : decode cX6_worthOf 29 = .ok (.lreturn, 1) := by decide +kernel
theorem RTb.kept2b {g : GX} {mo : Nat} {V V' : AH} {S : TSt} (h : RTb g mo V S) (hV : ∀ a, mo + 8 ≤ a → a ≤ mo + 12 → V' a = V a) : RTb g mo V' S := by
  obtain ⟨TH, RR, CC, NN, HH, t1, t2, t3, t4, t5, t6⟩ := h
  exact ⟨TH, RR, CC, NN, HH, (hV _ (by omega) (by omega)).trans t1, (hV _ (by omega) (by omega)).trans t2, (hV _ (by omega) (by omega)).trans t3, (hV _ (by omega) (by omega)).trans t4, (hV _ (by omega) (by omega)).trans t5, t6⟩
/-- the two rows of places have been written -/
def ERC (mo : Nat) : Nat → Prop := fun a => a = mo + 13 ∨ a = mo + 14
theorem RX.rc {g : GX} {mo : Nat} {V V' : AH} {zs : Nat → Int} {S : TSt} {A : ASt} (hR : RX g mo V zs S A) (hV : ∀ a, ¬ ERC mo a → V' a = V a) (h13 : ∃ F : Nat → Int, V' (mo + 13) = some (aIz g 5 F)) (h14 : ∃ F : Nat → Int, V' (mo + 14) = some (aIz g 5 F)) : RX g mo V' zs S A := by
  obtain ⟨⟨rk, kn, hmo⟩, ⟨F6, h6⟩, ⟨F7, h7⟩, -, -, ⟨F5, h5⟩, hT, hM, hz, o1, o2⟩ := hR
  exact ⟨⟨rk, kn, (hV mo (by unfold ERC; omega)).trans hmo⟩, ⟨F6, (hV _ (by unfold ERC; omega)).trans h6⟩, ⟨F7, (hV _ (by unfold ERC; omega)).trans h7⟩, h13, h14, ⟨F5, (hV _ (by unfold ERC; omega)).trans h5⟩, hT.kept2b (fun a h1 h2 => hV a (by unfold ERC; omega)), hM.kept (fun a ha => hV a (by unfold EN at ha; unfold ERC; omega)), hz, o1, o2⟩
set_option maxRecDepth 20000 in
theorem m_worthOf (g : GX) (d : Nat) {V : AH} {mo sz t : Nat} {zs : Nat → Int} {S : TSt} {A : ASt} (hR : RX g mo V zs S A) (ht : t < 12) : AMet g mX6_worthOf (d + 2) [.ref mo, .int (iZ (t : Int))] V sz (VX V sz (ERC mo) (fun r V' => some (.long (jZ (det (S.r t) (TM (S.N t))))) = r ∧ (∃ F : Nat → Int, V' (mo + 13) = some (aIz g 5 F)) ∧ ∃ F : Nat → Int, V' (mo + 14) = some (aIz g 5 F))) := by
  obtain ⟨⟨rk, kn, hmo⟩, -, -, ⟨F13, h13⟩, ⟨F14, h14⟩, -, hT, -, -, o1, -⟩ := id hR
  obtain ⟨q1, q3, -, qx, -⟩ := o1 t ht
  have hp31 : ∀ c : Nat, c < 5 → psb 31 c = c := fun c hc => (by decide : ∀ c : Fin 5, psb 31 c = c) ⟨c, hc⟩
  have hr31 : rkb 31 5 = 5 := by decide
  refine AMet.of rfl rfl (Nat.le_of_ble_eq_true rfl) ?_
  show AW g mX6_worthOf (d + 2) 0 [(0, .ref mo), (1, .int (iZ (t : Int)))] [] V sz _
  refine aw_aload_n dX6_worthOf_0 (by rfl) (Or.inr ⟨_, rfl⟩) ?_
  refine aw_get fX6_49 dX6_worthOf_1 hmo (by rfl) ?_
  refine aw_bipushZ dX6_worthOf_4 (by decide) ?_
  show AW _ _ _ _ _ (.int (iZ ((31 : Nat) : Int)) :: _) _ _ _
  refine aw_calls sX6_169 dX6_worthOf_6 (m_tellB g (d + 1) (s := 31) (by omega) h13) (by rfl) (by rfl) (by omega) (Nat.le_of_ble_eq_true rfl) ?_
  rintro _ V1 _ _ _ ⟨rfl, rfl, rfl, hE1, rfl, F1, hF1, hf1⟩ -
  refine q0 ?_
  have hmo1 := (hE1 mo (by omega)).trans hmo
  have h141 := (hE1 (mo + 14) (by omega)).trans h14
  refine aw_aload_n dX6_worthOf_9 (by rfl) (Or.inr ⟨_, rfl⟩) ?_
  refine aw_get fX6_52 dX6_worthOf_10 hmo1 (by rfl) ?_
  refine aw_bipushZ dX6_worthOf_13 (by decide) ?_
  show AW _ _ _ _ _ (.int (iZ ((31 : Nat) : Int)) :: _) _ _ _
  refine aw_calls sX6_169 dX6_worthOf_15 (m_tellB g (d + 1) (s := 31) (by omega) h141) (by rfl) (by rfl) (by omega) (Nat.le_of_ble_eq_true rfl) ?_
  rintro _ V2 _ _ _ ⟨rfl, rfl, rfl, hE2, rfl, F2, hF2, hf2⟩ -
  refine q0 ?_
  have hmo2 := (hE2 mo (by omega)).trans hmo1
  have h132 := (hE2 (mo + 13) (by omega)).trans hF1
  have hT2 := hT.kept2b (V' := V2) (fun a h1 h2 => (hE2 a (by omega)).trans (hE1 a (by omega)))
  obtain ⟨TH, RR, CC, NN, HH, t1, t2, t3, t4, t5, t6⟩ := id hT2
  refine aw_aload_n dX6_worthOf_18 (by rfl) (Or.inr ⟨_, rfl⟩) ?_
  refine aw_iload_n dX6_worthOf_19 (by rfl) ?_
  refine aw_aload_n dX6_worthOf_20 (by rfl) (Or.inr ⟨_, rfl⟩) ?_
  refine aw_get fX6_37 dX6_worthOf_21 hmo2 (by rfl) ?_
  refine aw_iload_n dX6_worthOf_24 (by rfl) ?_
  refine aw_ialdZ (t) dX6_worthOf_25 t2 (by omega) (by omega) (by omega) ?_
  rw [(t6 t ht).2.1]
  refine aw_callv vX6_173 dX6_worthOf_26 hmo2 (m_minor g d (t := t) (k := S.r t) (ra := fun c => c) (ca := fun c => c) hmo2 hT2 ht q1 qx h132 hF2 (fun i hi => ⟨by rw [hf1 i (by omega), hp31 i (by omega)], by show i < 5; omega⟩) (fun i hi => ⟨by rw [hf2 i (by omega), hp31 i (by omega)], by show i < 5; omega⟩)) (by rfl) (by rfl) (by omega) (Nat.le_of_ble_eq_true rfl) ?_
  rintro _ _ _ _ _ ⟨rfl, rfl, rfl, rfl, rfl⟩ -
  refine q0 ?_
  refine aw_lret dX6_worthOf_29 rfl ?_
  exact ⟨rfl, rfl, rfl, fun a ha => (hE2 a (fun z => ha (Or.inr z))).trans (hE1 a (fun z => ha (Or.inl z))), rfl, ⟨F1, h132⟩, ⟨F2, hF2⟩⟩
abbrev mX6_worth : MI := (yX6_worth, cX6_worth, 2, (some FieldType.int), noX)
theorem dX6_worth_0 : decode cX6_worth 0 = .ok (.aload_n 0, 1) := by decide +kernel
theorem dX6_worth_1 : decode cX6_worth 1 = .ok (.iload_n 1, 1) := by decide +kernel
theorem dX6_worth_2 : decode cX6_worth 2 = .ok (.invokevirtual 137, 3) := by decide +kernel
theorem dX6_worth_5 : decode cX6_worth 5 = .ok (.ifCond .eq 18, 3) := by decide +kernel
theorem dX6_worth_8 : decode cX6_worth 8 = .ok (.aload_n 0, 1) := by decide +kernel
theorem dX6_worth_9 : decode cX6_worth 9 = .ok (.getfield 37, 3) := by decide +kernel
theorem dX6_worth_12 : decode cX6_worth 12 = .ok (.iload_n 1, 1) := by decide +kernel
theorem dX6_worth_13 : decode cX6_worth 13 = .ok (.iaload, 1) := by decide +kernel
theorem dX6_worth_14 : decode cX6_worth 14 = .ok (.aload_n 0, 1) := by decide +kernel
theorem dX6_worth_15 : decode cX6_worth 15 = .ok (.getfield 40, 3) := by decide +kernel
theorem dX6_worth_18 : decode cX6_worth 18 = .ok (.iload_n 1, 1) := by decide +kernel
theorem dX6_worth_19 : decode cX6_worth 19 = .ok (.iaload, 1) := by decide +kernel
theorem dX6_worth_20 : decode cX6_worth 20 = .ok (.if_icmp .eq 6, 3) := by decide +kernel
theorem dX6_worth_23 : decode cX6_worth 23 = .ok (.bipush (-2), 2) := by decide +kernel
theorem dX6_worth_25 : decode cX6_worth 25 = .ok (.ireturn, 1) := by decide +kernel
theorem dX6_worth_26 : decode cX6_worth 26 = .ok (.aload_n 0, 1) := by decide +kernel
theorem dX6_worth_27 : decode cX6_worth 27 = .ok (.sipush 265, 3) := by decide +kernel
theorem dX6_worth_30 : decode cX6_worth 30 = .ok (.aload_n 0, 1) := by decide +kernel
theorem dX6_worth_31 : decode cX6_worth 31 = .ok (.iload_n 1, 1) := by decide +kernel
theorem dX6_worth_32 : decode cX6_worth 32 = .ok (.invokevirtual 155, 3) := by decide +kernel
theorem dX6_worth_35 : decode cX6_worth 35 = .ok (.invokevirtual 83, 3) := by decide +kernel
theorem dX6_worth_38 : decode cX6_worth 38 = .ok (.aload_n 0, 1) := by decide +kernel
theorem dX6_worth_39 : decode cX6_worth 39 = .ok (.iconst 1, 1) := by decide +kernel
theorem dX6_worth_40 : decode cX6_worth 40 = .ok (.iconst 1, 1) := by decide +kernel
theorem dX6_worth_41 : decode cX6_worth 41 = .ok (.invokevirtual 189, 3) := by decide +kernel
theorem dX6_worth_44 : decode cX6_worth 44 = .ok (.aload_n 0, 1) := by decide +kernel
theorem dX6_worth_45 : decode cX6_worth 45 = .ok (.getfield 17, 3) := by decide +kernel
theorem dX6_worth_48 : decode cX6_worth 48 = .ok (.sipush 265, 3) := by decide +kernel
theorem dX6_worth_51 : decode cX6_worth 51 = .ok (.iaload, 1) := by decide +kernel
theorem dX6_worth_52 : decode cX6_worth 52 = .ok (.ireturn, 1) := by decide +kernel
set_option maxRecDepth 20000 in
theorem m_worth (g : GX) (d : Nat) {V : AH} {mo sz : Nat} {zs : Nat → Int} {S : TSt} {A : ASt} {t : Int} (hR : RX g mo V zs S A) (ht : R32 t) : AMet g mX6_worth (d + 3) [.ref mo, .int (iZ t)] V sz (RE g mo V sz (WorR S A t)) := by
  obtain ⟨⟨rk, kn, hmo⟩, -, -, -, -, -, hT, -, -, hTO, -⟩ := id hR
  obtain ⟨TH, RR, CC, NN, HH, t1, t2, t3, t4, t5, t6⟩ := id hT
  refine AMet.of rfl rfl (Nat.le_of_ble_eq_true rfl) ?_
  show AW g mX6_worth (d + 3) 0 [(0, .ref mo), (1, .int (iZ t))] [] V sz _
  refine aw_aload_n dX6_worth_0 (by rfl) (Or.inr ⟨_, rfl⟩) ?_
  refine aw_iload_n dX6_worth_1 (by rfl) ?_
  refine aw_callv vX6_137 dX6_worth_2 hmo (m_isTable g (d + 2) (t := t) hmo hT ht) (by rfl) (by rfl) (by omega) (Nat.le_of_ble_eq_true rfl) ?_
  rintro _ _ _ _ _ ⟨rfl, rfl, rfl, rfl, rfl⟩ -
  refine q0 ?_
  refine aw_if_eqZ (tgt := 23) dX6_worth_5 (by decide) (tbZ_R _ _) (fun hc_5 => ?_) (fun hc_5 => ?_)
  · have hno := tbZ_no hc_5
    refine aw_bipushZ dX6_worth_23 (by decide) ?_
    refine aw_iret dX6_worth_25 rfl (by rfl) ?_
    first
    | exact ⟨rfl, rfl, rfl, fun _ _ => rfl, zs, S, A, hR, rfl, Or.inr ⟨fun k hk e1 e2 => absurd (hno k hk e1) (by omega), rfl, rfl⟩⟩
    | (have hne : ∀ k : Nat, k < 12 → (n : Int) = (k : Int) → 0 < S.r k → S.r k ≠ S.c k := fun k _ e1 _ => by
         have e : n = k := by omega
         subst e
         exact hsq
       exact ⟨rfl, rfl, rfl, fun _ _ => rfl, zs, S, A, hR, rfl, Or.inr ⟨hne, rfl, rfl⟩⟩)
  · obtain ⟨n, hn, rfl, hrn⟩ := tbZ_yes hc_5
    obtain ⟨q1, q3, -, qx, -⟩ := hTO n hn
    refine aw_aload_n dX6_worth_8 (by rfl) (Or.inr ⟨_, rfl⟩) ?_
    refine aw_get fX6_37 dX6_worth_9 hmo (by rfl) ?_
    refine aw_iload_n dX6_worth_12 (by rfl) ?_
    refine aw_ialdZ (n) dX6_worth_13 t2 (by omega) (by omega) (by omega) ?_
    refine aw_aload_n dX6_worth_14 (by rfl) (Or.inr ⟨_, rfl⟩) ?_
    refine aw_get fX6_40 dX6_worth_15 hmo (by rfl) ?_
    refine aw_iload_n dX6_worth_18 (by rfl) ?_
    refine aw_ialdZ (n) dX6_worth_19 t3 (by omega) (by omega) (by omega) ?_
    refine aw_icmp_eqZ (tgt := 26) dX6_worth_20 (by decide) (by rw [(t6 n hn).2.1]; omega) (by rw [(t6 n hn).2.2.1]; omega) (fun hc_20 => ?_) (fun hc_20 => ?_)
    · have hsq : S.r n = S.c n := by rw [(t6 n hn).2.1, (t6 n hn).2.2.1] at hc_20; omega
      refine aw_aload_n dX6_worth_26 (by rfl) (Or.inr ⟨_, rfl⟩) ?_
      refine aw_sipushZ dX6_worth_27 (by decide) ?_
      refine aw_aload_n dX6_worth_30 (by rfl) (Or.inr ⟨_, rfl⟩) ?_
      refine aw_iload_n dX6_worth_31 (by rfl) ?_
      refine aw_callv vX6_155 dX6_worth_32 hmo (m_worthOf g d (t := n) hR hn) (by rfl) (by rfl) (by omega) (Nat.le_of_ble_eq_true rfl) ?_
      rintro _ V1 _ _ _ ⟨rfl, rfl, rfl, hE1, rfl, h131, h141⟩ -
      refine q0 ?_
      have hR1 := hR.rc hE1 h131 h141
      obtain ⟨⟨rk1, kn1, hmo1⟩, ⟨F61, h61⟩, ⟨F71, h71⟩, -, -, -, hT1, hM1, -⟩ := id hR1
      have hdr := det_R (N := S.N n) q1 qx
      unfold ab at hdr
      show AW _ _ _ _ _ (_ :: .int (iZ ((265 : Nat) : Int)) :: _) _ _ _
      refine aw_callv vX6_83 dX6_worth_35 hmo1 (m_becomes g (d + 2) (c := 265) (v := det (S.r n) (TM (S.N n))) ⟨_, _, _, _, hmo1⟩ hM1 (by omega) (by omega)) (by rfl) (by rfl) (by omega) (Nat.le_of_ble_eq_true rfl) ?_
      rintro _ V2 _ _ _ ⟨rfl, rfl, rfl, hE2, rfl, hM2⟩ -
      refine q0 ?_
      have hmo2 := (hE2 mo (by unfold EN; omega)).trans hmo1
      refine aw_aload_n dX6_worth_38 (by rfl) (Or.inr ⟨_, rfl⟩) ?_
      refine aw_iconstZ dX6_worth_39 ?_
      refine aw_iconstZ dX6_worth_40 ?_
      show AW _ _ _ _ _ (.int (iZ ((1 : Nat) : Int)) :: .int (iZ ((1 : Nat) : Int)) :: _) _ _ _
      refine aw_callv vX6_189 dX6_worth_41 hmo2 (m_tells g (d + 2) (h := 1) (w := 1) hmo2 (by omega)) (by rfl) (by rfl) (by omega) (Nat.le_of_ble_eq_true rfl) ?_
      rintro _ V3 _ _ _ ⟨rfl, rfl, rfl, hE3, rfl, hmo3⟩ -
      refine q0 ?_
      have hM3 := hM2.kept (V' := V3) (fun a ha => hE3 a (by unfold EN at ha; omega))
      obtain ⟨D, LN, SG, O1, O2, hA3, h03⟩ := id hM3
      have hsg : SG 265 = (det (S.r n) (TM (S.N n))).sign := by obtain ⟨_, _, _, h3, _⟩ := h03 265 (by omega); rw [h3, upF_self]
      refine aw_aload_n dX6_worth_44 (by rfl) (Or.inr ⟨_, rfl⟩) ?_
      refine aw_get fX6_17 dX6_worth_45 hmo3 (by rfl) ?_
      refine aw_sipushZ dX6_worth_48 (by decide) ?_
      refine aw_ialdZ (265) dX6_worth_51 hA3.2.2.1 (by omega) (by omega) (by omega) ?_
      refine aw_iret dX6_worth_52 rfl (by rfl) ?_
      rw [hsg, hsq]
      exact ⟨rfl, rfl, rfl, fun a ha => (hE3 a (fun z => ha (by unfold EM; omega))).trans ((hE2 a (fun z => ha (by unfold EN at z; unfold EM; omega))).trans (hE1 a (fun z => ha (by unfold ERC at z; unfold EM; omega)))), _, S, _, hR1.tell (h := 1) (w := 1) (B := fun _ _ => det (S.c n) (TM (S.N n))) hmo3 ((hE3 _ (by omega)).trans ((hE2 _ (by unfold EN; omega)).trans h61)) ((hE3 _ (by omega)).trans ((hE2 _ (by unfold EN; omega)).trans h71)) (fun a h1 h2 => (hE3 a (by omega)).trans (hE2 a (by unfold EN; omega))) hM3 (fun i j hi hj => by rw [show i = 0 by omega, show j = 0 by omega, upF_self, hsq]) (by omega) (by omega), rfl, Or.inl ⟨n, hn, rfl, hrn, hsq, rfl, rfl, rfl, rfl, fun _ _ _ _ => rfl⟩⟩
    · have hsq : S.r n ≠ S.c n := by rw [(t6 n hn).2.1, (t6 n hn).2.2.1] at hc_20; omega
      refine aw_bipushZ dX6_worth_23 (by decide) ?_
      refine aw_iret dX6_worth_25 rfl (by rfl) ?_
      first
      | exact ⟨rfl, rfl, rfl, fun _ _ => rfl, zs, S, A, hR, rfl, Or.inr ⟨fun k hk e1 e2 => absurd (hno k hk e1) (by omega), rfl, rfl⟩⟩
      | (have hne : ∀ k : Nat, k < 12 → (n : Int) = (k : Int) → 0 < S.r k → S.r k ≠ S.c k := fun k _ e1 _ => by
           have e : n = k := by omega
           subst e
           exact hsq
         exact ⟨rfl, rfl, rfl, fun _ _ => rfl, zs, S, A, hR, rfl, Or.inr ⟨hne, rfl, rfl⟩⟩)

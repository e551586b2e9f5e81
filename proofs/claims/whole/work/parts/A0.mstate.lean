/-! ===== the reference: its state as a whole; isTable, isRow, areAlike, isAsked, tellsAnswer, stairOf ===== -/
def arZ (A : ASt) : Int := if A.t = 0 then -1 else (A.h : Int)
def acZ (A : ASt) : Int := if A.t = 0 then -1 else (A.w : Int)
/-- the reference as it stands -/
def RX (g : GX) (mo : Nat) (V : AH) (zs : Nat → Int) (S : TSt) (A : ASt) : Prop := (∃ rk kn : Int, V mo = some (moO mo rk kn (arZ A) (acZ A))) ∧ (∃ F : Nat → Int, V (mo + 6) = some (aIz g 11 F)) ∧ (∃ F : Nat → Int, V (mo + 7) = some (aIz g 11 F)) ∧ (∃ F : Nat → Int, V (mo + 13) = some (aIz g 5 F)) ∧ (∃ F : Nat → Int, V (mo + 14) = some (aIz g 5 F)) ∧ (∃ F : Nat → Int, V (mo + 15) = some (aIz g 25 F)) ∧ RTb g mo V S ∧ MN g mo V zs ∧ (∀ i j, i < A.h → j < A.w → zs (265 + 10 * i + j) = A.m i j) ∧ TOK S ∧ AOK A
def EM (mo : Nat) : Nat → Prop := fun a => mo ≤ a ∧ a ≤ mo + 15
/-- a reference method's end -/
def RE (g : GX) (mo : Nat) (V : AH) (sz : Nat) (R : Option Value → TSt → ASt → Prop) : AQ := VX V sz (EM mo) (fun r V' => ∃ (z' : Nat → Int) (S' : TSt) (A' : ASt), RX g mo V' z' S' A' ∧ R r S' A')
def tbZ (S : TSt) (t : Int) : Int := if 0 ≤ t ∧ t < 12 ∧ 0 < S.r t.toNat then 1 else 0
def rwZ (S : TSt) (t i : Int) : Int := if 0 ≤ t ∧ t < 12 ∧ 0 < S.r t.toNat ∧ 0 ≤ i ∧ i < S.r t.toNat then 1 else 0
def alZ (S : TSt) (t u : Int) : Int := if (0 ≤ t ∧ t < 12 ∧ 0 < S.r t.toNat) ∧ (0 ≤ u ∧ u < 12 ∧ 0 < S.r u.toNat) ∧ S.c t.toNat = S.c u.toNat then 1 else 0
abbrev mX6_isTable : MI := (yX6_isTable, cX6_isTable, 2, (some FieldType.boolean), noX)
theorem dX6_isTable_0 : decode cX6_isTable 0 = .ok (.iload_n 1, 1) := by decide +kernel
theorem dX6_isTable_1 : decode cX6_isTable 1 = .ok (.ifCond .lt 22, 3) := by decide +kernel
theorem dX6_isTable_4 : decode cX6_isTable 4 = .ok (.iload_n 1, 1) := by decide +kernel
theorem dX6_isTable_5 : decode cX6_isTable 5 = .ok (.bipush 12, 2) := by decide +kernel
theorem dX6_isTable_7 : decode cX6_isTable 7 = .ok (.if_icmp .ge 16, 3) := by decide +kernel
theorem dX6_isTable_10 : decode cX6_isTable 10 = .ok (.aload_n 0, 1) := by decide +kernel
theorem dX6_isTable_11 : decode cX6_isTable 11 = .ok (.getfield 33, 3) := by decide +kernel
theorem dX6_isTable_14 : decode cX6_isTable 14 = .ok (.iload_n 1, 1) := by decide +kernel
theorem dX6_isTable_15 : decode cX6_isTable 15 = .ok (.baload, 1) := by decide +kernel
theorem dX6_isTable_16 : decode cX6_isTable 16 = .ok (.ifCond .eq 7, 3) := by decide +kernel
theorem dX6_isTable_19 : decode cX6_isTable 19 = .ok (.iconst 1, 1) := by decide +kernel
theorem dX6_isTable_20 : decode cX6_isTable 20 = .ok (.goto 4, 3) := by decide +kernel
theorem dX6_isTable_23 : decode cX6_isTable 23 = .ok (.iconst 0, 1) := by decide +kernel
theorem dX6_isTable_24 : decode cX6_isTable 24 = .ok (.ireturn, 1) := by decide +kernel
theorem m_isTable (g : GX) (d : Nat) {V : AH} {mo sz : Nat} {rk kn ar ac : Int} {S : TSt} {t : Int} (hmo : V mo = some (moO mo rk kn ar ac)) (hT : RTb g mo V S) (ht : R32 t) : AMet g mX6_isTable d [.ref mo, .int (iZ t)] V sz (Ex (some (.int (iZ (tbZ S t)))) V sz 0 0) := by
  obtain ⟨TH, RR, CC, NN, HH, h1, h2, h3, h4, h5, h6⟩ := hT
  have NO : ¬ (0 ≤ t ∧ t < 12 ∧ 0 < S.r t.toNat) → AW g mX6_isTable d 23 [(0, .ref mo), (1, .int (iZ t))] [] V sz (Ex (some (.int (iZ (tbZ S t)))) V sz 0 0) := fun hno => by
    rw [show tbZ S t = 0 from if_neg hno]
    refine aw_iconstZ dX6_isTable_23 ?_
    refine aw_iret dX6_isTable_24 rfl (by rfl) ?_
    exact ⟨rfl, rfl, rfl, rfl, rfl⟩
  refine AMet.of rfl rfl (Nat.le_of_ble_eq_true rfl) ?_
  show AW g mX6_isTable d 0 [(0, .ref mo), (1, .int (iZ t))] [] V sz _
  refine aw_iload_n dX6_isTable_0 (by rfl) ?_
  refine aw_if_ltZ (tgt := 23) dX6_isTable_1 (by decide) ht (fun hc_1 => ?_) (fun hc_1 => ?_)
  · exact NO (by omega)
  · refine aw_iload_n dX6_isTable_4 (by rfl) ?_
    refine aw_bipushZ dX6_isTable_5 (by decide) ?_
    refine aw_icmp_geZ (tgt := 23) dX6_isTable_7 (by decide) ht (by omega) (fun hc_7 => ?_) (fun hc_7 => ?_)
    · exact NO (by omega)
    · refine aw_aload_n dX6_isTable_10 (by rfl) (Or.inr ⟨_, rfl⟩) ?_
      refine aw_get fX6_33 dX6_isTable_11 hmo (by rfl) ?_
      refine aw_iload_n dX6_isTable_14 (by rfl) ?_
      refine aw_zaldZ (t.toNat) dX6_isTable_15 h1 (by omega) (by omega) (by omega) ?_
      refine aw_if_eqZ (tgt := 23) dX6_isTable_16 (by decide) (by rw [(h6 t.toNat (by omega)).1]; split <;> omega) (fun hc_16 => ?_) (fun hc_16 => ?_)
      · exact NO (fun z => by rw [(h6 t.toNat (by omega)).1, if_pos z.2.2] at hc_16; omega)
      · rw [show tbZ S t = 1 from if_pos ⟨by omega, by omega, Classical.byContradiction (fun z => hc_16 (by rw [(h6 t.toNat (by omega)).1, if_neg z]))⟩]
        refine aw_iconstZ dX6_isTable_19 ?_
        refine aw_goto (tgt := 24) dX6_isTable_20 (by decide) ?_
        refine aw_iret dX6_isTable_24 rfl (by rfl) ?_
        exact ⟨rfl, rfl, rfl, rfl, rfl⟩
abbrev mX6_isRow : MI := (yX6_isRow, cX6_isRow, 3, (some FieldType.boolean), noX)
theorem dX6_isRow_0 : decode cX6_isRow 0 = .ok (.aload_n 0, 1) := by decide +kernel
theorem dX6_isRow_1 : decode cX6_isRow 1 = .ok (.iload_n 1, 1) := by decide +kernel
theorem dX6_isRow_2 : decode cX6_isRow 2 = .ok (.invokevirtual 137, 3) := by decide +kernel
theorem dX6_isRow_5 : decode cX6_isRow 5 = .ok (.ifCond .eq 21, 3) := by decide +kernel
theorem dX6_isRow_8 : decode cX6_isRow 8 = .ok (.iload_n 2, 1) := by decide +kernel
theorem dX6_isRow_9 : decode cX6_isRow 9 = .ok (.ifCond .lt 17, 3) := by decide +kernel
theorem dX6_isRow_12 : decode cX6_isRow 12 = .ok (.iload_n 2, 1) := by decide +kernel
theorem dX6_isRow_13 : decode cX6_isRow 13 = .ok (.aload_n 0, 1) := by decide +kernel
theorem dX6_isRow_14 : decode cX6_isRow 14 = .ok (.getfield 37, 3) := by decide +kernel
theorem dX6_isRow_17 : decode cX6_isRow 17 = .ok (.iload_n 1, 1) := by decide +kernel
theorem dX6_isRow_18 : decode cX6_isRow 18 = .ok (.iaload, 1) := by decide +kernel
theorem dX6_isRow_19 : decode cX6_isRow 19 = .ok (.if_icmp .ge 7, 3) := by decide +kernel
theorem dX6_isRow_22 : decode cX6_isRow 22 = .ok (.iconst 1, 1) := by decide +kernel
theorem dX6_isRow_23 : decode cX6_isRow 23 = .ok (.goto 4, 3) := by decide +kernel
theorem dX6_isRow_26 : decode cX6_isRow 26 = .ok (.iconst 0, 1) := by decide +kernel
theorem dX6_isRow_27 : decode cX6_isRow 27 = .ok (.ireturn, 1) := by decide +kernel
theorem m_isRow (g : GX) (d : Nat) {V : AH} {mo sz : Nat} {rk kn ar ac : Int} {S : TSt} {t i : Int} (hmo : V mo = some (moO mo rk kn ar ac)) (hT : RTb g mo V S) (ht : R32 t) (hi : R32 i) (hrb : ∀ n, n < 12 → S.r n ≤ 5) : AMet g mX6_isRow (d + 1) [.ref mo, .int (iZ t), .int (iZ i)] V sz (Ex (some (.int (iZ (rwZ S t i)))) V sz 0 0) := by
  obtain ⟨TH, RR, CC, NN, HH, h1, h2, h3, h4, h5, h6⟩ := id hT
  have NO : ¬ (0 ≤ t ∧ t < 12 ∧ 0 < S.r t.toNat ∧ 0 ≤ i ∧ i < S.r t.toNat) → AW g mX6_isRow (d + 1) 26 [(0, .ref mo), (1, .int (iZ t)), (2, .int (iZ i))] [] V sz (Ex (some (.int (iZ (rwZ S t i)))) V sz 0 0) := fun hno => by
    rw [show rwZ S t i = 0 from if_neg hno]
    refine aw_iconstZ dX6_isRow_26 ?_
    refine aw_iret dX6_isRow_27 rfl (by rfl) ?_
    exact ⟨rfl, rfl, rfl, rfl, rfl⟩
  refine AMet.of rfl rfl (Nat.le_of_ble_eq_true rfl) ?_
  show AW g mX6_isRow (d + 1) 0 [(0, .ref mo), (1, .int (iZ t)), (2, .int (iZ i))] [] V sz _
  refine aw_aload_n dX6_isRow_0 (by rfl) (Or.inr ⟨_, rfl⟩) ?_
  refine aw_iload_n dX6_isRow_1 (by rfl) ?_
  refine aw_callv vX6_137 dX6_isRow_2 hmo (m_isTable g d (t := t) hmo hT ht) (by rfl) (by rfl) (by omega) (Nat.le_of_ble_eq_true rfl) ?_
  rintro _ _ _ _ _ ⟨rfl, rfl, rfl, rfl, rfl⟩ -
  refine q0 ?_
  refine aw_if_eqZ (tgt := 26) dX6_isRow_5 (by decide) (by unfold tbZ; split <;> omega) (fun hc_5 => ?_) (fun hc_5 => ?_)
  · have hbt : ¬ (0 ≤ t ∧ t < 12 ∧ 0 < S.r t.toNat) := fun z => by rw [show tbZ S t = 1 from if_pos z] at hc_5; omega
    exact NO (by omega)
  · have hbt : 0 ≤ t ∧ t < 12 ∧ 0 < S.r t.toNat := Classical.byContradiction (fun z => hc_5 (if_neg z))
    refine aw_iload_n dX6_isRow_8 (by rfl) ?_
    refine aw_if_ltZ (tgt := 26) dX6_isRow_9 (by decide) hi (fun hc_9 => ?_) (fun hc_9 => ?_)
    · exact NO (by omega)
    · refine aw_iload_n dX6_isRow_12 (by rfl) ?_
      have hR5 := hrb t.toNat (by omega)
      refine aw_aload_n dX6_isRow_13 (by rfl) (Or.inr ⟨_, rfl⟩) ?_
      refine aw_get fX6_37 dX6_isRow_14 hmo (by rfl) ?_
      refine aw_iload_n dX6_isRow_17 (by rfl) ?_
      refine aw_ialdZ (t.toNat) dX6_isRow_18 h2 (by omega) (by omega) (by omega) ?_
      refine aw_icmp_geZ (tgt := 26) dX6_isRow_19 (by decide) hi (by rw [(h6 t.toNat (by omega)).2.1]; have := hR5; omega) (fun hc_19 => ?_) (fun hc_19 => ?_)
      · rw [(h6 t.toNat (by omega)).2.1] at hc_19
        exact NO (by omega)
      · rw [(h6 t.toNat (by omega)).2.1] at hc_19
        rw [show rwZ S t i = 1 from if_pos ⟨hbt.1, hbt.2.1, hbt.2.2, by omega, by omega⟩]
        refine aw_iconstZ dX6_isRow_22 ?_
        refine aw_goto (tgt := 27) dX6_isRow_23 (by decide) ?_
        refine aw_iret dX6_isRow_27 rfl (by rfl) ?_
        exact ⟨rfl, rfl, rfl, rfl, rfl⟩
abbrev mX6_areAlike : MI := (yX6_areAlike, cX6_areAlike, 3, (some FieldType.boolean), noX)
theorem dX6_areAlike_0 : decode cX6_areAlike 0 = .ok (.aload_n 0, 1) := by decide +kernel
theorem dX6_areAlike_1 : decode cX6_areAlike 1 = .ok (.iload_n 1, 1) := by decide +kernel
theorem dX6_areAlike_2 : decode cX6_areAlike 2 = .ok (.invokevirtual 137, 3) := by decide +kernel
theorem dX6_areAlike_5 : decode cX6_areAlike 5 = .ok (.ifCond .eq 30, 3) := by decide +kernel
theorem dX6_areAlike_8 : decode cX6_areAlike 8 = .ok (.aload_n 0, 1) := by decide +kernel
theorem dX6_areAlike_9 : decode cX6_areAlike 9 = .ok (.iload_n 2, 1) := by decide +kernel
theorem dX6_areAlike_10 : decode cX6_areAlike 10 = .ok (.invokevirtual 137, 3) := by decide +kernel
theorem dX6_areAlike_13 : decode cX6_areAlike 13 = .ok (.ifCond .eq 22, 3) := by decide +kernel
theorem dX6_areAlike_16 : decode cX6_areAlike 16 = .ok (.aload_n 0, 1) := by decide +kernel
theorem dX6_areAlike_17 : decode cX6_areAlike 17 = .ok (.getfield 40, 3) := by decide +kernel
theorem dX6_areAlike_20 : decode cX6_areAlike 20 = .ok (.iload_n 1, 1) := by decide +kernel
theorem dX6_areAlike_21 : decode cX6_areAlike 21 = .ok (.iaload, 1) := by decide +kernel
theorem dX6_areAlike_22 : decode cX6_areAlike 22 = .ok (.aload_n 0, 1) := by decide +kernel
theorem dX6_areAlike_23 : decode cX6_areAlike 23 = .ok (.getfield 40, 3) := by decide +kernel
theorem dX6_areAlike_26 : decode cX6_areAlike 26 = .ok (.iload_n 2, 1) := by decide +kernel
theorem dX6_areAlike_27 : decode cX6_areAlike 27 = .ok (.iaload, 1) := by decide +kernel
theorem dX6_areAlike_28 : decode cX6_areAlike 28 = .ok (.if_icmp .ne 7, 3) := by decide +kernel
theorem dX6_areAlike_31 : decode cX6_areAlike 31 = .ok (.iconst 1, 1) := by decide +kernel
theorem dX6_areAlike_32 : decode cX6_areAlike 32 = .ok (.goto 4, 3) := by decide +kernel
theorem dX6_areAlike_35 : decode cX6_areAlike 35 = .ok (.iconst 0, 1) := by decide +kernel
theorem dX6_areAlike_36 : decode cX6_areAlike 36 = .ok (.ireturn, 1) := by decide +kernel
theorem m_areAlike (g : GX) (d : Nat) {V : AH} {mo sz : Nat} {rk kn ar ac : Int} {S : TSt} {t u : Int} (hmo : V mo = some (moO mo rk kn ar ac)) (hT : RTb g mo V S) (ht : R32 t) (hu : R32 u) (hcb : ∀ n, n < 12 → S.c n ≤ 5) : AMet g mX6_areAlike (d + 1) [.ref mo, .int (iZ t), .int (iZ u)] V sz (Ex (some (.int (iZ (alZ S t u)))) V sz 0 0) := by
  obtain ⟨TH, RR, CC, NN, HH, h1, h2, h3, h4, h5, h6⟩ := id hT
  have NO : ¬ ((0 ≤ t ∧ t < 12 ∧ 0 < S.r t.toNat) ∧ (0 ≤ u ∧ u < 12 ∧ 0 < S.r u.toNat) ∧ S.c t.toNat = S.c u.toNat) → AW g mX6_areAlike (d + 1) 35 [(0, .ref mo), (1, .int (iZ t)), (2, .int (iZ u))] [] V sz (Ex (some (.int (iZ (alZ S t u)))) V sz 0 0) := fun hno => by
    rw [show alZ S t u = 0 from if_neg hno]
    refine aw_iconstZ dX6_areAlike_35 ?_
    refine aw_iret dX6_areAlike_36 rfl (by rfl) ?_
    exact ⟨rfl, rfl, rfl, rfl, rfl⟩
  refine AMet.of rfl rfl (Nat.le_of_ble_eq_true rfl) ?_
  show AW g mX6_areAlike (d + 1) 0 [(0, .ref mo), (1, .int (iZ t)), (2, .int (iZ u))] [] V sz _
  refine aw_aload_n dX6_areAlike_0 (by rfl) (Or.inr ⟨_, rfl⟩) ?_
  refine aw_iload_n dX6_areAlike_1 (by rfl) ?_
  refine aw_callv vX6_137 dX6_areAlike_2 hmo (m_isTable g d (t := t) hmo hT ht) (by rfl) (by rfl) (by omega) (Nat.le_of_ble_eq_true rfl) ?_
  rintro _ _ _ _ _ ⟨rfl, rfl, rfl, rfl, rfl⟩ -
  refine q0 ?_
  refine aw_if_eqZ (tgt := 35) dX6_areAlike_5 (by decide) (by unfold tbZ; split <;> omega) (fun hc_5 => ?_) (fun hc_5 => ?_)
  · have hbt : ¬ (0 ≤ t ∧ t < 12 ∧ 0 < S.r t.toNat) := fun z => by rw [show tbZ S t = 1 from if_pos z] at hc_5; omega
    first
    | exact NO (fun z => hbt z.1)
    | exact NO (fun z => hbu z.2.1)
    | exact NO (fun z => hc_28 (by rw [z.2.2]))
  · have hbt : 0 ≤ t ∧ t < 12 ∧ 0 < S.r t.toNat := Classical.byContradiction (fun z => hc_5 (if_neg z))
    refine aw_aload_n dX6_areAlike_8 (by rfl) (Or.inr ⟨_, rfl⟩) ?_
    refine aw_iload_n dX6_areAlike_9 (by rfl) ?_
    refine aw_callv vX6_137 dX6_areAlike_10 hmo (m_isTable g d (t := u) hmo hT hu) (by rfl) (by rfl) (by omega) (Nat.le_of_ble_eq_true rfl) ?_
    rintro _ _ _ _ _ ⟨rfl, rfl, rfl, rfl, rfl⟩ -
    refine q0 ?_
    refine aw_if_eqZ (tgt := 35) dX6_areAlike_13 (by decide) (by unfold tbZ; split <;> omega) (fun hc_13 => ?_) (fun hc_13 => ?_)
    · have hbu : ¬ (0 ≤ u ∧ u < 12 ∧ 0 < S.r u.toNat) := fun z => by rw [show tbZ S u = 1 from if_pos z] at hc_13; omega
      first
      | exact NO (fun z => hbt z.1)
      | exact NO (fun z => hbu z.2.1)
      | exact NO (fun z => hc_28 (by rw [z.2.2]))
    · have hbu : 0 ≤ u ∧ u < 12 ∧ 0 < S.r u.toNat := Classical.byContradiction (fun z => hc_13 (if_neg z))
      have e1 := (h6 t.toNat (by omega)).2.2.1
      have e2 := (h6 u.toNat (by omega)).2.2.1
      have c1 := hcb t.toNat (by omega)
      have c2 := hcb u.toNat (by omega)
      refine aw_aload_n dX6_areAlike_16 (by rfl) (Or.inr ⟨_, rfl⟩) ?_
      refine aw_get fX6_40 dX6_areAlike_17 hmo (by rfl) ?_
      refine aw_iload_n dX6_areAlike_20 (by rfl) ?_
      refine aw_ialdZ (t.toNat) dX6_areAlike_21 h3 (by omega) (by omega) (by omega) ?_
      refine aw_aload_n dX6_areAlike_22 (by rfl) (Or.inr ⟨_, rfl⟩) ?_
      refine aw_get fX6_40 dX6_areAlike_23 hmo (by rfl) ?_
      refine aw_iload_n dX6_areAlike_26 (by rfl) ?_
      refine aw_ialdZ (u.toNat) dX6_areAlike_27 h3 (by omega) (by omega) (by omega) ?_
      refine aw_icmp_neZ (tgt := 35) dX6_areAlike_28 (by decide) (by rw [e1]; omega) (by rw [e2]; omega) (fun hc_28 => ?_) (fun hc_28 => ?_)
      · rw [e1, e2] at hc_28
        first
        | exact NO (fun z => hbt z.1)
        | exact NO (fun z => hbu z.2.1)
        | exact NO (fun z => hc_28 (by rw [z.2.2]))
      · rw [e1, e2] at hc_28
        rw [show alZ S t u = 1 from if_pos ⟨hbt, hbu, by omega⟩]
        refine aw_iconstZ dX6_areAlike_31 ?_
        refine aw_goto (tgt := 36) dX6_areAlike_32 (by decide) ?_
        refine aw_iret dX6_areAlike_36 rfl (by rfl) ?_
        exact ⟨rfl, rfl, rfl, rfl, rfl⟩
abbrev mX6_isAsked : MI := (yX6_isAsked, cX6_isAsked, 4, (some FieldType.boolean), noX)
theorem dX6_isAsked_0 : decode cX6_isAsked 0 = .ok (.aload_n 0, 1) := by decide +kernel
theorem dX6_isAsked_1 : decode cX6_isAsked 1 = .ok (.iload_n 1, 1) := by decide +kernel
theorem dX6_isAsked_2 : decode cX6_isAsked 2 = .ok (.iload_n 2, 1) := by decide +kernel
theorem dX6_isAsked_3 : decode cX6_isAsked 3 = .ok (.invokevirtual 186, 3) := by decide +kernel
theorem dX6_isAsked_6 : decode cX6_isAsked 6 = .ok (.ifCond .eq 16, 3) := by decide +kernel
theorem dX6_isAsked_9 : decode cX6_isAsked 9 = .ok (.aload_n 0, 1) := by decide +kernel
theorem dX6_isAsked_10 : decode cX6_isAsked 10 = .ok (.iload_n 2, 1) := by decide +kernel
theorem dX6_isAsked_11 : decode cX6_isAsked 11 = .ok (.iload_n 3, 1) := by decide +kernel
theorem dX6_isAsked_12 : decode cX6_isAsked 12 = .ok (.invokevirtual 141, 3) := by decide +kernel
theorem dX6_isAsked_15 : decode cX6_isAsked 15 = .ok (.ifCond .eq 7, 3) := by decide +kernel
theorem dX6_isAsked_18 : decode cX6_isAsked 18 = .ok (.iconst 1, 1) := by decide +kernel
theorem dX6_isAsked_19 : decode cX6_isAsked 19 = .ok (.goto 4, 3) := by decide +kernel
theorem dX6_isAsked_22 : decode cX6_isAsked 22 = .ok (.iconst 0, 1) := by decide +kernel
theorem dX6_isAsked_23 : decode cX6_isAsked 23 = .ok (.ireturn, 1) := by decide +kernel
theorem m_isAsked (g : GX) (d : Nat) {V : AH} {mo sz : Nat} {rk kn ar ac : Int} {S : TSt} {t u i : Int} (hmo : V mo = some (moO mo rk kn ar ac)) (hT : RTb g mo V S) (ht : R32 t) (hu : R32 u) (hi : R32 i) (hrb : ∀ n, n < 12 → S.r n ≤ 5) (hcb : ∀ n, n < 12 → S.c n ≤ 5) : AMet g mX6_isAsked (d + 2) [.ref mo, .int (iZ t), .int (iZ u), .int (iZ i)] V sz (Ex (some (.int (iZ (if alZ S t u = 1 ∧ rwZ S u i = 1 then 1 else 0)))) V sz 0 0) := by
  have a01 : alZ S t u = 0 ∨ alZ S t u = 1 := by unfold alZ; split <;> omega
  have r01 : rwZ S u i = 0 ∨ rwZ S u i = 1 := by unfold rwZ; split <;> omega
  refine AMet.of rfl rfl (Nat.le_of_ble_eq_true rfl) ?_
  show AW g mX6_isAsked (d + 2) 0 [(0, .ref mo), (1, .int (iZ t)), (2, .int (iZ u)), (3, .int (iZ i))] [] V sz _
  refine aw_aload_n dX6_isAsked_0 (by rfl) (Or.inr ⟨_, rfl⟩) ?_
  refine aw_iload_n dX6_isAsked_1 (by rfl) ?_
  refine aw_iload_n dX6_isAsked_2 (by rfl) ?_
  refine aw_callv vX6_186 dX6_isAsked_3 hmo (m_areAlike g d (t := t) (u := u) hmo hT ht hu hcb) (by rfl) (by rfl) (by omega) (Nat.le_of_ble_eq_true rfl) ?_
  rintro _ _ _ _ _ ⟨rfl, rfl, rfl, rfl, rfl⟩ -
  refine q0 ?_
  refine aw_if_eqZ (tgt := 22) dX6_isAsked_6 (by decide) (by omega) (fun hc_6 => ?_) (fun hc_6 => ?_)
  · rw [if_neg (by omega)]
    refine aw_iconstZ dX6_isAsked_22 ?_
    refine aw_iret dX6_isAsked_23 rfl (by rfl) ?_
    exact ⟨rfl, rfl, rfl, rfl, rfl⟩
  · refine aw_aload_n dX6_isAsked_9 (by rfl) (Or.inr ⟨_, rfl⟩) ?_
    refine aw_iload_n dX6_isAsked_10 (by rfl) ?_
    refine aw_iload_n dX6_isAsked_11 (by rfl) ?_
    refine aw_callv vX6_141 dX6_isAsked_12 hmo (m_isRow g d (t := u) (i := i) hmo hT hu hi hrb) (by rfl) (by rfl) (by omega) (Nat.le_of_ble_eq_true rfl) ?_
    rintro _ _ _ _ _ ⟨rfl, rfl, rfl, rfl, rfl⟩ -
    refine q0 ?_
    refine aw_if_eqZ (tgt := 22) dX6_isAsked_15 (by decide) (by omega) (fun hc_15 => ?_) (fun hc_15 => ?_)
    · rw [if_neg (by omega)]
      refine aw_iconstZ dX6_isAsked_22 ?_
      refine aw_iret dX6_isAsked_23 rfl (by rfl) ?_
      exact ⟨rfl, rfl, rfl, rfl, rfl⟩
    · rw [if_pos (by omega)]
      refine aw_iconstZ dX6_isAsked_18 ?_
      refine aw_goto (tgt := 23) dX6_isAsked_19 (by decide) ?_
      refine aw_iret dX6_isAsked_23 rfl (by rfl) ?_
      exact ⟨rfl, rfl, rfl, rfl, rfl⟩
abbrev mX6_tellsAnswer : MI := (yX6_tellsAnswer, cX6_tellsAnswer, 3, none, noX)
theorem dX6_tellsAnswer_0 : decode cX6_tellsAnswer 0 = .ok (.aload_n 0, 1) := by decide +kernel
theorem dX6_tellsAnswer_1 : decode cX6_tellsAnswer 1 = .ok (.iload_n 1, 1) := by decide +kernel
theorem dX6_tellsAnswer_2 : decode cX6_tellsAnswer 2 = .ok (.putfield 55, 3) := by decide +kernel
theorem dX6_tellsAnswer_5 : decode cX6_tellsAnswer 5 = .ok (.aload_n 0, 1) := by decide +kernel
theorem dX6_tellsAnswer_6 : decode cX6_tellsAnswer 6 = .ok (.iload_n 1, 1) := by decide +kernel
theorem dX6_tellsAnswer_7 : decode cX6_tellsAnswer 7 = .ok (.ifCond .ne 7, 3) := by decide +kernel
theorem dX6_tellsAnswer_10 : decode cX6_tellsAnswer 10 = .ok (.iconst 0, 1) := by decide +kernel
theorem dX6_tellsAnswer_11 : decode cX6_tellsAnswer 11 = .ok (.goto 4, 3) := by decide +kernel
theorem dX6_tellsAnswer_14 : decode cX6_tellsAnswer 14 = .ok (.iload_n 2, 1) := by decide +kernel
theorem dX6_tellsAnswer_15 : decode cX6_tellsAnswer 15 = .ok (.putfield 59, 3) := by decide +kernel
theorem dX6_tellsAnswer_18 : decode cX6_tellsAnswer 18 = .ok (.return_, 1) := by decide +kernel
theorem m_tells (g : GX) (d : Nat) {V : AH} {mo sz h w : Nat} {rk kn ar ac : Int} (hmo : V mo = some (moO mo rk kn ar ac)) (hh : h < 1000) : AMet g mX6_tellsAnswer d [.ref mo, .int (iZ h), .int (iZ w)] V sz (VX V sz (fun a => a = mo) (fun r V' => none = r ∧ V' mo = some (moO mo rk kn h (if h = 0 then 0 else (w : Int))))) := by
  refine AMet.of rfl rfl (Nat.le_of_ble_eq_true rfl) ?_
  show AW g mX6_tellsAnswer d 0 [(0, .ref mo), (1, .int (iZ h)), (2, .int (iZ w))] [] V sz _
  refine aw_aload_n dX6_tellsAnswer_0 (by rfl) (Or.inr ⟨_, rfl⟩) ?_
  refine aw_iload_n dX6_tellsAnswer_1 (by rfl) ?_
  refine aw_put fX6_55 dX6_tellsAnswer_2 hmo (by rfl) (by rfl) (Nat.le_of_ble_eq_true rfl) ?_
  refine aw_aload_n dX6_tellsAnswer_5 (by rfl) (Or.inr ⟨_, rfl⟩) ?_
  refine aw_iload_n dX6_tellsAnswer_6 (by rfl) ?_
  refine aw_if_neZ (tgt := 14) dX6_tellsAnswer_7 (by decide) (by omega) (fun hc_7 => ?_) (fun hc_7 => ?_)
  · refine aw_iload_n dX6_tellsAnswer_14 (by rfl) ?_
    refine aw_put fX6_59 dX6_tellsAnswer_15 (AHu_self _ _ _) (by rfl) (by rfl) (Nat.le_of_ble_eq_true rfl) ?_
    refine aw_ret dX6_tellsAnswer_18 rfl ?_
    first
    | (rw [if_neg (by omega)]; exact ⟨rfl, rfl, rfl, fun a ha => (AHu_ne ha).trans (AHu_ne ha), rfl, AHu_self _ _ _⟩)
    | (rw [if_pos (by omega)]; exact ⟨rfl, rfl, rfl, fun a ha => (AHu_ne ha).trans (AHu_ne ha), rfl, AHu_self _ _ _⟩)
  · refine aw_iconstZ dX6_tellsAnswer_10 ?_
    refine aw_goto (tgt := 15) dX6_tellsAnswer_11 (by decide) ?_
    refine aw_put fX6_59 dX6_tellsAnswer_15 (AHu_self _ _ _) (by rfl) (by rfl) (Nat.le_of_ble_eq_true rfl) ?_
    refine aw_ret dX6_tellsAnswer_18 rfl ?_
    first
    | (rw [if_neg (by omega)]; exact ⟨rfl, rfl, rfl, fun a ha => (AHu_ne ha).trans (AHu_ne ha), rfl, AHu_self _ _ _⟩)
    | (rw [if_pos (by omega)]; exact ⟨rfl, rfl, rfl, fun a ha => (AHu_ne ha).trans (AHu_ne ha), rfl, AHu_self _ _ _⟩)
abbrev mX6_stairOf : MI := (yX6_stairOf, cX6_stairOf, 2, none, noX)
theorem dX6_stairOf_0 : decode cX6_stairOf 0 = .ok (.aload_n 0, 1) := by decide +kernel
theorem dX6_stairOf_1 : decode cX6_stairOf 1 = .ok (.invokevirtual 195, 3) := by decide +kernel
theorem dX6_stairOf_4 : decode cX6_stairOf 4 = .ok (.aload_n 0, 1) := by decide +kernel
theorem dX6_stairOf_5 : decode cX6_stairOf 5 = .ok (.iload_n 1, 1) := by decide +kernel
theorem dX6_stairOf_6 : decode cX6_stairOf 6 = .ok (.iconst 0, 1) := by decide +kernel
theorem dX6_stairOf_7 : decode cX6_stairOf 7 = .ok (.invokevirtual 198, 3) := by decide +kernel
theorem dX6_stairOf_10 : decode cX6_stairOf 10 = .ok (.return_, 1) := by decide +kernel
/-- behind stairOf: the combined STAIR of table t -/
def StQ (g : GX) (mo : Nat) (ar ac : Int) (z0 : Nat → Int) (S : TSt) (t : Nat) : Option Value → AH → Prop := fun q V' => none = q ∧ ∃ (r κ : Nat) (l lk : Nat → Nat) (z' : Nat → Int), CSt g mo V' r κ ar ac l lk z' ∧ Stair (CPx (S.c t) r z') (r + κ) (S.c t + S.r t) (lpx (S.c t) r l lk) ∧ SpEq (TU (S.N t) (S.c t)) (S.r t) (CPx (S.c t) r z') (r + κ) (S.c t + S.r t) ∧ (∀ i, i < r → l i < S.c t) ∧ (∀ e, e < κ → lk e < S.r t) ∧ Stair (CMx r z') (r + κ) 15 (lcx r l lk) ∧ SpEq (GTx (TM (S.N t))) (S.r t) (CMx r z') (r + κ) 15 ∧ r + κ ≤ S.r t ∧ Frm z0 z' InC
theorem m_stairOf (g : GX) (d : Nat) {V : AH} {mo sz t : Nat} {zs : Nat → Int} {S : TSt} {A : ASt} (hR : RX g mo V zs S A) (ht : t < 12) : AMet g mX6_stairOf (d + 8) [.ref mo, .int (iZ t)] V sz (VX V sz (EC mo) (StQ g mo (arZ A) (acZ A) zs S t)) := by
  obtain ⟨⟨rk, kn, hmo⟩, ⟨F6, h6⟩, ⟨F7, h7⟩, -, -, -, hT, hM, -, hTO, -⟩ := hR
  obtain ⟨o1, o2, o3, o4, o5, o6, o7⟩ := hTO t ht
  have hNb : ∀ a b, a < S.r t → b < 5 → ab (TM (S.N t) a b) ≤ 1000 := fun a b ha hb => by
    have := o4 (5 * a + b) (by omega)
    show ab (S.N t (5 * a + b)) ≤ 1000
    unfold ab; omega
  refine AMet.of rfl rfl (Nat.le_of_ble_eq_true rfl) ?_
  show AW g mX6_stairOf (d + 8) 0 [(0, .ref mo), (1, .int (iZ t))] [] V sz _
  refine aw_aload_n dX6_stairOf_0 (by rfl) (Or.inr ⟨_, rfl⟩) ?_
  refine aw_callv vX6_195 dX6_stairOf_1 hmo (m_none g (d + 7) hmo) (by rfl) (by rfl) (by omega) (Nat.le_of_ble_eq_true rfl) ?_
  rintro _ V1 _ _ _ ⟨rfl, rfl, rfl, hE1, rfl, hmo1⟩ -
  refine q0 ?_
  have hst0 : Stair (CMx 0 zs) (0 + 0) 15 (lcx 0 (fun _ => 0) (fun _ => 0)) := ⟨⟨fun i hi => absurd hi (by omega), fun i k _ hk => absurd hk (by omega)⟩, fun i hi => absurd hi (by omega), fun i k _ hk => absurd hk (by omega)⟩
  have hC1 : CSt g mo V1 0 0 (arZ A) (acZ A) (fun _ => 0) (fun _ => 0) zs := ⟨F6, F7, hmo1, (hE1 _ (by omega)).trans h6, (hE1 _ (by omega)).trans h7, fun i hi => absurd hi (by omega), fun i hi => absurd hi (by omega), hM.kept (fun a ha => hE1 a (by unfold EN at ha; omega)), fun i hi => absurd hi (by omega)⟩
  refine aw_aload_n dX6_stairOf_4 (by rfl) (Or.inr ⟨_, rfl⟩) ?_
  refine aw_iload_n dX6_stairOf_5 (by rfl) ?_
  refine aw_iconstZ dX6_stairOf_6 ?_
  refine aw_callv vX6_198 dX6_stairOf_7 hmo1 (m_brings g d (t := t) (fr := 0) (NJ := TM (S.N t)) (S := S) hC1 hst0 (SpEq.of (fun i hi => absurd hi (by omega)) (fun i hi => absurd hi (by omega))) (by omega) (hT.kept (fun a h1 h2 => hE1 a (by omega))) ht o1 (by omega) o4 (fun a b ha hb => hNb a b (by omega) hb) (fun i j hi hj => by rw [Nat.zero_add])) (by rfl) (by rfl) (by omega) (Nat.le_of_ble_eq_true rfl) ?_
  rintro _ V2 _ _ _ ⟨rfl, rfl, rfl, hE2, rfl, r2, κ2, l2, lk2, z2, hC2, hst2, hsp2, hn2, hF2⟩ -
  refine q0 ?_
  rw [Nat.zero_add] at hsp2 hn2
  obtain ⟨_, _, _, _, _, _, _, _, hl5⟩ := id hC2
  obtain ⟨k1, k2, k3, k4⟩ := cp_main o2 (by omega) hst2 hl5 hsp2 (N := S.N t) (c := S.c t) (fun i j hi hj => by
    split
    · rfl
    · exact o6 i j (by omega) hj (Or.inr (Or.inl (by omega))))
  refine aw_ret dX6_stairOf_10 rfl ?_
  exact ⟨rfl, rfl, rfl, fun a ha => (hE2 a ha).trans (hE1 a (fun z => ha (by unfold EC; omega))), rfl, r2, κ2, l2, lk2, z2, hC2, k1, k2, k3, k4, hst2, hsp2, hn2, hF2⟩

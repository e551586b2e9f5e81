/-! ===== the reference: get, answer, sign, join ===== -/
def iaZ (A : ASt) (i j : Int) : Int := if 0 ≤ i ∧ i < A.h ∧ 0 ≤ j ∧ j < A.w then 1 else 0
theorem ar_lt {A : ASt} (hA : AOK A) {i : Int} (hi : 0 ≤ i) : (i < arZ A ↔ i < A.h) ∧ (i < acZ A ↔ i < A.w) ∧ R32 (arZ A) ∧ R32 (acZ A) := by
  obtain ⟨h1, h2, h3, h4⟩ := hA
  unfold arZ acZ
  by_cases e : A.t = 0
  · obtain ⟨e1, e2⟩ := h4 e
    rw [if_pos e, if_pos e]
    omega
  · rw [if_neg e, if_neg e]
    omega
abbrev mX6_get : MI := (yX6_get, cX6_get, 4, (some FieldType.int), noX)
theorem dX6_get_0 : decode cX6_get 0 = .ok (.aload_n 0, 1) := by decide +kernel
theorem dX6_get_1 : decode cX6_get 1 = .ok (.iload_n 1, 1) := by decide +kernel
theorem dX6_get_2 : decode cX6_get 2 = .ok (.iload_n 2, 1) := by decide +kernel
theorem dX6_get_3 : decode cX6_get 3 = .ok (.invokevirtual 141, 3) := by decide +kernel
theorem dX6_get_6 : decode cX6_get 6 = .ok (.ifCond .eq 27, 3) := by decide +kernel
theorem dX6_get_9 : decode cX6_get 9 = .ok (.iload_n 3, 1) := by decide +kernel
theorem dX6_get_10 : decode cX6_get 10 = .ok (.ifCond .lt 23, 3) := by decide +kernel
theorem dX6_get_13 : decode cX6_get 13 = .ok (.iload_n 3, 1) := by decide +kernel
theorem dX6_get_14 : decode cX6_get 14 = .ok (.aload_n 0, 1) := by decide +kernel
theorem dX6_get_15 : decode cX6_get 15 = .ok (.getfield 40, 3) := by decide +kernel
theorem dX6_get_18 : decode cX6_get 18 = .ok (.iload_n 1, 1) := by decide +kernel
theorem dX6_get_19 : decode cX6_get 19 = .ok (.iaload, 1) := by decide +kernel
theorem dX6_get_20 : decode cX6_get 20 = .ok (.if_icmp .ge 13, 3) := by decide +kernel
theorem dX6_get_23 : decode cX6_get 23 = .ok (.aload_n 0, 1) := by decide +kernel
theorem dX6_get_24 : decode cX6_get 24 = .ok (.iload_n 1, 1) := by decide +kernel
theorem dX6_get_25 : decode cX6_get 25 = .ok (.iload_n 2, 1) := by decide +kernel
theorem dX6_get_26 : decode cX6_get 26 = .ok (.iload_n 3, 1) := by decide +kernel
theorem dX6_get_27 : decode cX6_get 27 = .ok (.invokevirtual 148, 3) := by decide +kernel
theorem dX6_get_30 : decode cX6_get 30 = .ok (.goto 6, 3) := by decide +kernel
theorem dX6_get_33 : decode cX6_get 33 = .ok (.sipush (-10000), 3) := by decide +kernel
theorem dX6_get_36 : decode cX6_get 36 = .ok (.ireturn, 1) := by decide +kernel
theorem m_get (g : GX) (d : Nat) {V : AH} {mo sz : Nat} {zs : Nat → Int} {S : TSt} {A : ASt} {t i j : Int} (hR : RX g mo V zs S A) (ht : R32 t) (hi : R32 i) (hj : R32 j) : AMet g mX6_get (d + 2) [.ref mo, .int (iZ t), .int (iZ i), .int (iZ j)] V sz (Ex (some (.int (iZ (spGet S t i j)))) V sz 0 0) := by
  obtain ⟨⟨rk, kn, hmo⟩, -, -, -, -, -, hT, -, -, hTO, -⟩ := id hR
  obtain ⟨TH, RR, CC, NN, HH, h1, h2, h3, h4, h5, h6⟩ := id hT
  have hrb : ∀ n, n < 12 → S.r n ≤ 5 := fun n hn => (hTO n hn).1
  have hcb : ∀ n, n < 12 → S.c n ≤ 5 := fun n hn => (hTO n hn).2.1
  have NO : ¬ (0 ≤ t ∧ t < 12 ∧ 0 ≤ i ∧ i < S.r t.toNat ∧ 0 ≤ j ∧ j < S.c t.toNat) → AW g mX6_get (d + 2) 33 [(0, .ref mo), (1, .int (iZ t)), (2, .int (iZ i)), (3, .int (iZ j))] [] V sz (Ex (some (.int (iZ (spGet S t i j)))) V sz 0 0) := fun hno => by
    rw [show spGet S t i j = -10000 from if_neg hno]
    refine aw_sipushZ dX6_get_33 (by decide) ?_
    refine aw_iret dX6_get_36 rfl (by rfl) ?_
    exact ⟨rfl, rfl, rfl, rfl, rfl⟩
  refine AMet.of rfl rfl (Nat.le_of_ble_eq_true rfl) ?_
  show AW g mX6_get (d + 2) 0 [(0, .ref mo), (1, .int (iZ t)), (2, .int (iZ i)), (3, .int (iZ j))] [] V sz _
  refine aw_aload_n dX6_get_0 (by rfl) (Or.inr ⟨_, rfl⟩) ?_
  refine aw_iload_n dX6_get_1 (by rfl) ?_
  refine aw_iload_n dX6_get_2 (by rfl) ?_
  refine aw_callv vX6_141 dX6_get_3 hmo (m_isRow g d (t := t) (i := i) hmo hT ht hi hrb) (by rfl) (by rfl) (by omega) (Nat.le_of_ble_eq_true rfl) ?_
  rintro _ _ _ _ _ ⟨rfl, rfl, rfl, rfl, rfl⟩ -
  refine q0 ?_
  refine aw_if_eqZ (tgt := 33) dX6_get_6 (by decide) (by unfold rwZ; split <;> omega) (fun hc_6 => ?_) (fun hc_6 => ?_)
  · have hb : ¬ (0 ≤ t ∧ t < 12 ∧ 0 < S.r t.toNat ∧ 0 ≤ i ∧ i < S.r t.toNat) := fun z => by rw [show rwZ S t i = 1 from if_pos z] at hc_6; omega
    exact NO (by omega)
  · have hb : 0 ≤ t ∧ t < 12 ∧ 0 < S.r t.toNat ∧ 0 ≤ i ∧ i < S.r t.toNat := Classical.byContradiction (fun z => hc_6 (if_neg z))
    have e1 := (h6 t.toNat (by omega)).2.2.1
    have c1 := hcb t.toNat (by omega)
    have r1 := hrb t.toNat (by omega)
    refine aw_iload_n dX6_get_9 (by rfl) ?_
    refine aw_if_ltZ (tgt := 33) dX6_get_10 (by decide) hj (fun hc_10 => ?_) (fun hc_10 => ?_)
    · exact NO (by omega)
    · refine aw_iload_n dX6_get_13 (by rfl) ?_
      refine aw_aload_n dX6_get_14 (by rfl) (Or.inr ⟨_, rfl⟩) ?_
      refine aw_get fX6_40 dX6_get_15 hmo (by rfl) ?_
      refine aw_iload_n dX6_get_18 (by rfl) ?_
      refine aw_ialdZ (t.toNat) dX6_get_19 h3 (by omega) (by omega) (by omega) ?_
      refine aw_icmp_geZ (tgt := 33) dX6_get_20 (by decide) hj (by rw [e1]; omega) (fun hc_20 => ?_) (fun hc_20 => ?_)
      · rw [e1] at hc_20
        exact NO (by omega)
      · rw [e1] at hc_20
        rw [show spGet S t i j = S.N t.toNat (5 * i.toNat + j.toNat) from if_pos ⟨hb.1, hb.2.1, hb.2.2.2.1, hb.2.2.2.2, by omega, by omega⟩]
        refine aw_aload_n dX6_get_23 (by rfl) (Or.inr ⟨_, rfl⟩) ?_
        refine aw_iload_n dX6_get_24 (by rfl) ?_
        refine aw_topi (y := ((t.toNat : Nat) : Int)) (by omega) ?_
        refine aw_iload_n dX6_get_25 (by rfl) ?_
        refine aw_topi (y := ((i.toNat : Nat) : Int)) (by omega) ?_
        refine aw_iload_n dX6_get_26 (by rfl) ?_
        refine aw_topi (y := ((j.toNat : Nat) : Int)) (by omega) ?_
        refine aw_callv vX6_148 dX6_get_27 hmo (m_at3 g (d + 1) (t := t.toNat) (i := i.toNat) (j := j.toNat) hmo hT (by omega) (by omega) (by omega)) (by rfl) (by rfl) (by omega) (Nat.le_of_ble_eq_true rfl) ?_
        rintro _ _ _ _ _ ⟨rfl, rfl, rfl, rfl, rfl⟩ -
        refine q0 ?_
        refine aw_goto (tgt := 36) dX6_get_30 (by decide) ?_
        refine aw_iret dX6_get_36 rfl (by rfl) ?_
        exact ⟨rfl, rfl, rfl, rfl, rfl⟩
abbrev mX6_answer : MI := (yX6_answer, cX6_answer, 2, (some FieldType.int), noX)
theorem dX6_answer_0 : decode cX6_answer 0 = .ok (.iload_n 1, 1) := by decide +kernel
theorem dX6_answer_1 : decode cX6_answer 1 = .ok (.ifCond .ne 10, 3) := by decide +kernel
theorem dX6_answer_4 : decode cX6_answer 4 = .ok (.aload_n 0, 1) := by decide +kernel
theorem dX6_answer_5 : decode cX6_answer 5 = .ok (.getfield 55, 3) := by decide +kernel
theorem dX6_answer_8 : decode cX6_answer 8 = .ok (.goto 16, 3) := by decide +kernel
theorem dX6_answer_11 : decode cX6_answer 11 = .ok (.iload_n 1, 1) := by decide +kernel
theorem dX6_answer_12 : decode cX6_answer 12 = .ok (.iconst 1, 1) := by decide +kernel
theorem dX6_answer_13 : decode cX6_answer 13 = .ok (.if_icmp .ne 10, 3) := by decide +kernel
theorem dX6_answer_16 : decode cX6_answer 16 = .ok (.aload_n 0, 1) := by decide +kernel
theorem dX6_answer_17 : decode cX6_answer 17 = .ok (.getfield 59, 3) := by decide +kernel
theorem dX6_answer_20 : decode cX6_answer 20 = .ok (.goto 4, 3) := by decide +kernel
theorem dX6_answer_23 : decode cX6_answer 23 = .ok (.iconst (-1), 1) := by decide +kernel
theorem dX6_answer_24 : decode cX6_answer 24 = .ok (.ireturn, 1) := by decide +kernel
theorem m_answer (g : GX) (d : Nat) {V : AH} {mo sz : Nat} {zs : Nat → Int} {S : TSt} {A : ASt} {q : Int} (hR : RX g mo V zs S A) (hq : R32 q) : AMet g mX6_answer d [.ref mo, .int (iZ q)] V sz (Ex (some (.int (iZ (spAns A q)))) V sz 0 0) := by
  obtain ⟨⟨rk, kn, hmo⟩, -, -, -, -, -, -, -, -, -, hA⟩ := id hR
  refine AMet.of rfl rfl (Nat.le_of_ble_eq_true rfl) ?_
  show AW g mX6_answer d 0 [(0, .ref mo), (1, .int (iZ q))] [] V sz _
  refine aw_iload_n dX6_answer_0 (by rfl) ?_
  refine aw_if_neZ (tgt := 11) dX6_answer_1 (by decide) hq (fun hc_1 => ?_) (fun hc_1 => ?_)
  · refine aw_iload_n dX6_answer_11 (by rfl) ?_
    refine aw_iconstZ dX6_answer_12 ?_
    refine aw_icmp_neZ (tgt := 23) dX6_answer_13 (by decide) hq (by omega) (fun hc_13 => ?_) (fun hc_13 => ?_)
    · refine aw_iconstZ dX6_answer_23 ?_
      refine aw_iret dX6_answer_24 rfl (by rfl) ?_
      first
      | (rw [show spAns A q = arZ A by unfold spAns arZ; rw [if_pos (show q = 0 by omega)]]; exact ⟨rfl, rfl, rfl, rfl, rfl⟩)
      | (rw [show spAns A q = acZ A by unfold spAns acZ; rw [if_neg (show ¬ q = 0 by omega), if_pos (show q = 1 by omega)]]; exact ⟨rfl, rfl, rfl, rfl, rfl⟩)
      | (rw [show spAns A q = -1 by unfold spAns; rw [if_neg (show ¬ q = 0 by omega), if_neg (show ¬ q = 1 by omega)]; split <;> rfl]; exact ⟨rfl, rfl, rfl, rfl, rfl⟩)
    · refine aw_aload_n dX6_answer_16 (by rfl) (Or.inr ⟨_, rfl⟩) ?_
      refine aw_get fX6_59 dX6_answer_17 hmo (by rfl) ?_
      refine aw_goto (tgt := 24) dX6_answer_20 (by decide) ?_
      refine aw_iret dX6_answer_24 rfl (by rfl) ?_
      first
      | (rw [show spAns A q = arZ A by unfold spAns arZ; rw [if_pos (show q = 0 by omega)]]; exact ⟨rfl, rfl, rfl, rfl, rfl⟩)
      | (rw [show spAns A q = acZ A by unfold spAns acZ; rw [if_neg (show ¬ q = 0 by omega), if_pos (show q = 1 by omega)]]; exact ⟨rfl, rfl, rfl, rfl, rfl⟩)
      | (rw [show spAns A q = -1 by unfold spAns; rw [if_neg (show ¬ q = 0 by omega), if_neg (show ¬ q = 1 by omega)]; split <;> rfl]; exact ⟨rfl, rfl, rfl, rfl, rfl⟩)
  · refine aw_aload_n dX6_answer_4 (by rfl) (Or.inr ⟨_, rfl⟩) ?_
    refine aw_get fX6_55 dX6_answer_5 hmo (by rfl) ?_
    refine aw_goto (tgt := 24) dX6_answer_8 (by decide) ?_
    refine aw_iret dX6_answer_24 rfl (by rfl) ?_
    first
    | (rw [show spAns A q = arZ A by unfold spAns arZ; rw [if_pos (show q = 0 by omega)]]; exact ⟨rfl, rfl, rfl, rfl, rfl⟩)
    | (rw [show spAns A q = acZ A by unfold spAns acZ; rw [if_neg (show ¬ q = 0 by omega), if_pos (show q = 1 by omega)]]; exact ⟨rfl, rfl, rfl, rfl, rfl⟩)
    | (rw [show spAns A q = -1 by unfold spAns; rw [if_neg (show ¬ q = 0 by omega), if_neg (show ¬ q = 1 by omega)]; split <;> rfl]; exact ⟨rfl, rfl, rfl, rfl, rfl⟩)
abbrev mX6_isAnswer : MI := (yX6_isAnswer, cX6_isAnswer, 3, (some FieldType.boolean), noX)
theorem dX6_isAnswer_0 : decode cX6_isAnswer 0 = .ok (.iload_n 1, 1) := by decide +kernel
theorem dX6_isAnswer_1 : decode cX6_isAnswer 1 = .ok (.ifCond .lt 27, 3) := by decide +kernel
theorem dX6_isAnswer_4 : decode cX6_isAnswer 4 = .ok (.iload_n 1, 1) := by decide +kernel
theorem dX6_isAnswer_5 : decode cX6_isAnswer 5 = .ok (.aload_n 0, 1) := by decide +kernel
theorem dX6_isAnswer_6 : decode cX6_isAnswer 6 = .ok (.getfield 55, 3) := by decide +kernel
theorem dX6_isAnswer_9 : decode cX6_isAnswer 9 = .ok (.if_icmp .ge 19, 3) := by decide +kernel
theorem dX6_isAnswer_12 : decode cX6_isAnswer 12 = .ok (.iload_n 2, 1) := by decide +kernel
theorem dX6_isAnswer_13 : decode cX6_isAnswer 13 = .ok (.ifCond .lt 15, 3) := by decide +kernel
theorem dX6_isAnswer_16 : decode cX6_isAnswer 16 = .ok (.iload_n 2, 1) := by decide +kernel
theorem dX6_isAnswer_17 : decode cX6_isAnswer 17 = .ok (.aload_n 0, 1) := by decide +kernel
theorem dX6_isAnswer_18 : decode cX6_isAnswer 18 = .ok (.getfield 59, 3) := by decide +kernel
theorem dX6_isAnswer_21 : decode cX6_isAnswer 21 = .ok (.if_icmp .ge 7, 3) := by decide +kernel
theorem dX6_isAnswer_24 : decode cX6_isAnswer 24 = .ok (.iconst 1, 1) := by decide +kernel
theorem dX6_isAnswer_25 : decode cX6_isAnswer 25 = .ok (.goto 4, 3) := by decide +kernel
theorem dX6_isAnswer_28 : decode cX6_isAnswer 28 = .ok (.iconst 0, 1) := by decide +kernel
theorem dX6_isAnswer_29 : decode cX6_isAnswer 29 = .ok (.ireturn, 1) := by decide +kernel
theorem m_isAnswer (g : GX) (d : Nat) {V : AH} {mo sz : Nat} {zs : Nat → Int} {S : TSt} {A : ASt} {i j : Int} (hR : RX g mo V zs S A) (hi : R32 i) (hj : R32 j) : AMet g mX6_isAnswer d [.ref mo, .int (iZ i), .int (iZ j)] V sz (Ex (some (.int (iZ (iaZ A i j)))) V sz 0 0) := by
  obtain ⟨⟨rk, kn, hmo⟩, -, -, -, -, -, -, -, -, -, hA⟩ := id hR
  have hi2 := @ar_lt A hA i
  have hj2 := @ar_lt A hA j
  have hR2 := (@ar_lt A hA 0 (by omega)).2.2
  have NO : ¬ (0 ≤ i ∧ i < A.h ∧ 0 ≤ j ∧ j < A.w) → AW g mX6_isAnswer d 28 [(0, .ref mo), (1, .int (iZ i)), (2, .int (iZ j))] [] V sz (Ex (some (.int (iZ (iaZ A i j)))) V sz 0 0) := fun hno => by
    rw [show iaZ A i j = 0 from if_neg hno]
    refine aw_iconstZ dX6_isAnswer_28 ?_
    refine aw_iret dX6_isAnswer_29 rfl (by rfl) ?_
    exact ⟨rfl, rfl, rfl, rfl, rfl⟩
  refine AMet.of rfl rfl (Nat.le_of_ble_eq_true rfl) ?_
  show AW g mX6_isAnswer d 0 [(0, .ref mo), (1, .int (iZ i)), (2, .int (iZ j))] [] V sz _
  refine aw_iload_n dX6_isAnswer_0 (by rfl) ?_
  refine aw_if_ltZ (tgt := 28) dX6_isAnswer_1 (by decide) hi (fun hc_1 => ?_) (fun hc_1 => ?_)
  · exact NO (by omega)
  · refine aw_iload_n dX6_isAnswer_4 (by rfl) ?_
    refine aw_aload_n dX6_isAnswer_5 (by rfl) (Or.inr ⟨_, rfl⟩) ?_
    refine aw_get fX6_55 dX6_isAnswer_6 hmo (by rfl) ?_
    refine aw_icmp_geZ (tgt := 28) dX6_isAnswer_9 (by decide) hi hR2.1 (fun hc_9 => ?_) (fun hc_9 => ?_)
    · have h9 := (hi2 (by omega)).1
      exact NO (by omega)
    · have h9 := (hi2 (by omega)).1
      refine aw_iload_n dX6_isAnswer_12 (by rfl) ?_
      refine aw_if_ltZ (tgt := 28) dX6_isAnswer_13 (by decide) hj (fun hc_13 => ?_) (fun hc_13 => ?_)
      · exact NO (by omega)
      · refine aw_iload_n dX6_isAnswer_16 (by rfl) ?_
        refine aw_aload_n dX6_isAnswer_17 (by rfl) (Or.inr ⟨_, rfl⟩) ?_
        refine aw_get fX6_59 dX6_isAnswer_18 hmo (by rfl) ?_
        refine aw_icmp_geZ (tgt := 28) dX6_isAnswer_21 (by decide) hj hR2.2 (fun hc_21 => ?_) (fun hc_21 => ?_)
        · have h21 := (hj2 (by omega)).2.1
          exact NO (by omega)
        · have h21 := (hj2 (by omega)).2.1
          rw [show iaZ A i j = 1 from if_pos ⟨by omega, by omega, by omega, by omega⟩]
          refine aw_iconstZ dX6_isAnswer_24 ?_
          refine aw_goto (tgt := 29) dX6_isAnswer_25 (by decide) ?_
          refine aw_iret dX6_isAnswer_29 rfl (by rfl) ?_
          exact ⟨rfl, rfl, rfl, rfl, rfl⟩
abbrev mX6_sign : MI := (yX6_sign, cX6_sign, 3, (some FieldType.int), noX)
theorem dX6_sign_0 : decode cX6_sign 0 = .ok (.aload_n 0, 1) := by decide +kernel
theorem dX6_sign_1 : decode cX6_sign 1 = .ok (.iload_n 1, 1) := by decide +kernel
theorem dX6_sign_2 : decode cX6_sign 2 = .ok (.iload_n 2, 1) := by decide +kernel
theorem dX6_sign_3 : decode cX6_sign 3 = .ok (.invokevirtual 177, 3) := by decide +kernel
theorem dX6_sign_6 : decode cX6_sign 6 = .ok (.ifCond .eq 21, 3) := by decide +kernel
theorem dX6_sign_9 : decode cX6_sign 9 = .ok (.aload_n 0, 1) := by decide +kernel
theorem dX6_sign_10 : decode cX6_sign 10 = .ok (.getfield 17, 3) := by decide +kernel
theorem dX6_sign_13 : decode cX6_sign 13 = .ok (.sipush 265, 3) := by decide +kernel
theorem dX6_sign_16 : decode cX6_sign 16 = .ok (.bipush 10, 2) := by decide +kernel
theorem dX6_sign_18 : decode cX6_sign 18 = .ok (.iload_n 1, 1) := by decide +kernel
theorem dX6_sign_19 : decode cX6_sign 19 = .ok (.imul, 1) := by decide +kernel
theorem dX6_sign_20 : decode cX6_sign 20 = .ok (.iadd, 1) := by decide +kernel
theorem dX6_sign_21 : decode cX6_sign 21 = .ok (.iload_n 2, 1) := by decide +kernel
theorem dX6_sign_22 : decode cX6_sign 22 = .ok (.iadd, 1) := by decide +kernel
theorem dX6_sign_23 : decode cX6_sign 23 = .ok (.iaload, 1) := by decide +kernel
theorem dX6_sign_24 : decode cX6_sign 24 = .ok (.goto 5, 3) := by decide +kernel
theorem dX6_sign_27 : decode cX6_sign 27 = .ok (.bipush (-2), 2) := by decide +kernel
theorem dX6_sign_29 : decode cX6_sign 29 = .ok (.ireturn, 1) := by decide +kernel
theorem m_sign (g : GX) (d : Nat) {V : AH} {mo sz : Nat} {zs : Nat → Int} {S : TSt} {A : ASt} {i j : Int} (hR : RX g mo V zs S A) (hi : R32 i) (hj : R32 j) : AMet g mX6_sign (d + 1) [.ref mo, .int (iZ i), .int (iZ j)] V sz (Ex (some (.int (iZ (spSign A i j)))) V sz 0 0) := by
  obtain ⟨⟨rk, kn, hmo⟩, -, -, -, -, -, -, hM, hz, -, hA⟩ := id hR
  obtain ⟨D, LN, SG, O1, O2, hAr, h0⟩ := hM
  have hAo := hA
  obtain ⟨-, b1, b2, -⟩ := hAo
  refine AMet.of rfl rfl (Nat.le_of_ble_eq_true rfl) ?_
  show AW g mX6_sign (d + 1) 0 [(0, .ref mo), (1, .int (iZ i)), (2, .int (iZ j))] [] V sz _
  refine aw_aload_n dX6_sign_0 (by rfl) (Or.inr ⟨_, rfl⟩) ?_
  refine aw_iload_n dX6_sign_1 (by rfl) ?_
  refine aw_iload_n dX6_sign_2 (by rfl) ?_
  refine aw_callv vX6_177 dX6_sign_3 hmo (m_isAnswer g d (i := i) (j := j) hR hi hj) (by rfl) (by rfl) (by omega) (Nat.le_of_ble_eq_true rfl) ?_
  rintro _ _ _ _ _ ⟨rfl, rfl, rfl, rfl, rfl⟩ -
  refine q0 ?_
  refine aw_if_eqZ (tgt := 27) dX6_sign_6 (by decide) (by unfold iaZ; split <;> omega) (fun hc_6 => ?_) (fun hc_6 => ?_)
  · have hb : ¬ (0 ≤ i ∧ i < A.h ∧ 0 ≤ j ∧ j < A.w) := fun z => by rw [show iaZ A i j = 1 from if_pos z] at hc_6; omega
    rw [show spSign A i j = -2 from if_neg hb]
    refine aw_bipushZ dX6_sign_27 (by decide) ?_
    refine aw_iret dX6_sign_29 rfl (by rfl) ?_
    exact ⟨rfl, rfl, rfl, rfl, rfl⟩
  · have hb : 0 ≤ i ∧ i < A.h ∧ 0 ≤ j ∧ j < A.w := Classical.byContradiction (fun z => hc_6 (if_neg z))
    obtain ⟨_, _, _, hsg, _, _, _⟩ := h0 (265 + 10 * i.toNat + j.toNat) (by omega)
    rw [show spSign A i j = (A.m i.toNat j.toNat).sign from if_pos hb, ← hz i.toNat j.toNat (by omega) (by omega), ← hsg]
    refine aw_aload_n dX6_sign_9 (by rfl) (Or.inr ⟨_, rfl⟩) ?_
    refine aw_get fX6_17 dX6_sign_10 hmo (by rfl) ?_
    refine aw_sipushZ dX6_sign_13 (by decide) ?_
    refine aw_bipushZ dX6_sign_16 (by decide) ?_
    refine aw_iload_n dX6_sign_18 (by rfl) ?_
    refine aw_imulZ dX6_sign_19 ?_
    refine aw_iaddZ dX6_sign_20 ?_
    refine aw_iload_n dX6_sign_21 (by rfl) ?_
    refine aw_iaddZ dX6_sign_22 ?_
    refine aw_ialdZ (265 + 10 * i.toNat + j.toNat) dX6_sign_23 hAr.2.2.1 (by omega) (by omega) (by omega) ?_
    refine aw_goto (tgt := 29) dX6_sign_24 (by decide) ?_
    refine aw_iret dX6_sign_29 rfl (by rfl) ?_
    exact ⟨rfl, rfl, rfl, rfl, rfl⟩
theorem alZ_yes {S : TSt} {t u : Int} (h : ¬ alZ S t u = 0) : ∃ n m : Nat, n < 12 ∧ m < 12 ∧ t = (n : Int) ∧ u = (m : Int) ∧ 0 < S.r n ∧ 0 < S.r m ∧ S.c n = S.c m := by
  have : (0 ≤ t ∧ t < 12 ∧ 0 < S.r t.toNat) ∧ (0 ≤ u ∧ u < 12 ∧ 0 < S.r u.toNat) ∧ S.c t.toNat = S.c u.toNat := Classical.byContradiction (fun z => h (if_neg z))
  exact ⟨t.toNat, u.toNat, by omega, by omega, by omega, by omega, this.1.2.2, this.2.1.2.2, this.2.2⟩
theorem alZ_no {S : TSt} {t u : Int} (h : alZ S t u = 0) : ¬ ∃ n m : Nat, n < 12 ∧ m < 12 ∧ t = (n : Int) ∧ u = (m : Int) ∧ 0 < S.r n ∧ 0 < S.r m ∧ S.c n = S.c m := fun ⟨n, m, h1, h2, h3, h4, h5, h6, h7⟩ => by
  rw [show alZ S t u = 1 from if_pos ⟨⟨by omega, by omega, by rw [h3]; exact h5⟩, ⟨by omega, by omega, by rw [h4]; exact h6⟩, by rw [h3, h4]; exact h7⟩] at h
  omega
theorem alZ_R (S : TSt) (t u : Int) : R32 (alZ S t u) := by unfold alZ; split <;> omega
/-- two tables' rows as one list of numbers -/
def jN (N M : Nat → Int) (r : Nat) : Nat → Int := fun k => JM N M r (k / 5) (k % 5)
theorem jN_at {N M : Nat → Int} {r i j : Nat} (hj : j < 5) : jN N M r (5 * i + j) = JM N M r i j := by
  unfold jN
  rw [show (5 * i + j) / 5 = i by omega, show (5 * i + j) % 5 = j by omega]
/-- behind both tables: the combined STAIR of all rows -/
def JnQ (g : GX) (mo : Nat) (ar ac : Int) (z0 : Nat → Int) (S : TSt) (x y : Nat) (V' : AH) : Prop := ∃ (r κ : Nat) (l lk : Nat → Nat) (z' : Nat → Int), CSt g mo V' r κ ar ac l lk z' ∧ Stair (CPx (S.c x) r z') (r + κ) (S.c x + (S.r x + S.r y)) (lpx (S.c x) r l lk) ∧ SpEq (TU (jN (S.N x) (S.N y) (S.r x)) (S.c x)) (S.r x + S.r y) (CPx (S.c x) r z') (r + κ) (S.c x + (S.r x + S.r y)) ∧ (∀ i, i < r → l i < S.c x) ∧ (∀ e, e < κ → lk e < S.r x + S.r y) ∧ r + κ ≤ S.r x + S.r y ∧ Frm z0 z' InC
abbrev mX6_join : MI := (yX6_join, cX6_join, 3, (some FieldType.int), noX)
theorem dX6_join_0 : decode cX6_join 0 = .ok (.aload_n 0, 1) := by decide +kernel
theorem dX6_join_1 : decode cX6_join 1 = .ok (.iload_n 1, 1) := by decide +kernel
theorem dX6_join_2 : decode cX6_join 2 = .ok (.iload_n 2, 1) := by decide +kernel
theorem dX6_join_3 : decode cX6_join 3 = .ok (.invokevirtual 186, 3) := by decide +kernel
theorem dX6_join_6 : decode cX6_join 6 = .ok (.ifCond .ne 5, 3) := by decide +kernel
theorem dX6_join_9 : decode cX6_join 9 = .ok (.iconst (-1), 1) := by decide +kernel
theorem dX6_join_10 : decode cX6_join 10 = .ok (.ireturn, 1) := by decide +kernel
theorem dX6_join_11 : decode cX6_join 11 = .ok (.aload_n 0, 1) := by decide +kernel
theorem dX6_join_12 : decode cX6_join 12 = .ok (.invokevirtual 195, 3) := by decide +kernel
theorem dX6_join_15 : decode cX6_join 15 = .ok (.aload_n 0, 1) := by decide +kernel
theorem dX6_join_16 : decode cX6_join 16 = .ok (.iload_n 1, 1) := by decide +kernel
theorem dX6_join_17 : decode cX6_join 17 = .ok (.iconst 0, 1) := by decide +kernel
theorem dX6_join_18 : decode cX6_join 18 = .ok (.invokevirtual 198, 3) := by decide +kernel
theorem dX6_join_21 : decode cX6_join 21 = .ok (.aload_n 0, 1) := by decide +kernel
theorem dX6_join_22 : decode cX6_join 22 = .ok (.iload_n 2, 1) := by decide +kernel
theorem dX6_join_23 : decode cX6_join 23 = .ok (.aload_n 0, 1) := by decide +kernel
theorem dX6_join_24 : decode cX6_join 24 = .ok (.getfield 37, 3) := by decide +kernel
theorem dX6_join_27 : decode cX6_join 27 = .ok (.iload_n 1, 1) := by decide +kernel
theorem dX6_join_28 : decode cX6_join 28 = .ok (.iaload, 1) := by decide +kernel
theorem dX6_join_29 : decode cX6_join 29 = .ok (.invokevirtual 198, 3) := by decide +kernel
theorem dX6_join_32 : decode cX6_join 32 = .ok (.aload_n 0, 1) := by decide +kernel
theorem dX6_join_33 : decode cX6_join 33 = .ok (.aload_n 0, 1) := by decide +kernel
theorem dX6_join_34 : decode cX6_join 34 = .ok (.getfield 40, 3) := by decide +kernel
theorem dX6_join_37 : decode cX6_join 37 = .ok (.iload_n 1, 1) := by decide +kernel
theorem dX6_join_38 : decode cX6_join 38 = .ok (.iaload, 1) := by decide +kernel
theorem dX6_join_39 : decode cX6_join 39 = .ok (.invokevirtual 201, 3) := by decide +kernel
theorem dX6_join_42 : decode cX6_join 42 = .ok (.ireturn, 1) := by decide +kernel
theorem m_join (g : GX) (d : Nat) {V : AH} {mo sz : Nat} {zs : Nat → Int} {S : TSt} {A : ASt} {t u : Int} (hR : RX g mo V zs S A) (ht : R32 t) (hu : R32 u) : AMet g mX6_join (d + 8) [.ref mo, .int (iZ t), .int (iZ u)] V sz (RE g mo V sz (fun q S' A' => (∃ x y : Nat, x < 12 ∧ y < 12 ∧ t = (x : Int) ∧ u = (y : Int) ∧ 0 < S.r x ∧ 0 < S.r y ∧ S.c x = S.c y ∧ (fun q S' A' => S' = S ∧ ∃ (h1 : Nat) (l1 : Nat → Nat) (B : Mat), Stair B h1 (S.c x) l1 ∧ SpEq (JM (S.N x) (S.N y) (S.r x)) (S.r x + S.r y) B h1 (S.c x) ∧ some (.int (iZ h1)) = q ∧ AIs A' h1 (S.c x) B) q S' A') ∨ (¬ (∃ n m : Nat, n < 12 ∧ m < 12 ∧ t = (n : Int) ∧ u = (m : Int) ∧ 0 < S.r n ∧ 0 < S.r m ∧ S.c n = S.c m) ∧ some (.int (iZ (-1))) = q ∧ S' = S ∧ A' = A))) := by
  obtain ⟨⟨rk, kn, hmo⟩, ⟨F6, h6⟩, ⟨F7, h7⟩, -, -, -, hT, hM, -, o1, -⟩ := id hR
  have hcb : ∀ n, n < 12 → S.c n ≤ 5 := fun n hn => (o1 n hn).2.1
  refine AMet.of rfl rfl (Nat.le_of_ble_eq_true rfl) ?_
  show AW g mX6_join (d + 8) 0 [(0, .ref mo), (1, .int (iZ t)), (2, .int (iZ u))] [] V sz _
  refine aw_aload_n dX6_join_0 (by rfl) (Or.inr ⟨_, rfl⟩) ?_
  refine aw_iload_n dX6_join_1 (by rfl) ?_
  refine aw_iload_n dX6_join_2 (by rfl) ?_
  refine aw_callv vX6_186 dX6_join_3 hmo (m_areAlike g (d + 6) (t := t) (u := u) hmo hT ht hu hcb) (by rfl) (by rfl) (by omega) (Nat.le_of_ble_eq_true rfl) ?_
  rintro _ _ _ _ _ ⟨rfl, rfl, rfl, rfl, rfl⟩ -
  refine q0 ?_
  refine aw_if_neZ (tgt := 11) dX6_join_6 (by decide) (alZ_R _ _ _) (fun hc_6 => ?_) (fun hc_6 => ?_)
  · obtain ⟨x, y, hx, hy, rfl, rfl, hrx, hry, hcc⟩ := alZ_yes hc_6
    have q1 := (o1 x hx).1
    have q2 := (o1 y hy).1
    refine aw_aload_n dX6_join_11 (by rfl) (Or.inr ⟨_, rfl⟩) ?_
    refine aw_callv vX6_195 dX6_join_12 hmo (m_none g (d + 7) hmo) (by rfl) (by rfl) (by omega) (Nat.le_of_ble_eq_true rfl) ?_
    rintro _ V1 _ _ _ ⟨rfl, rfl, rfl, hE1, rfl, hmo1⟩ -
    refine q0 ?_
    have hst0 : Stair (CMx 0 zs) (0 + 0) 15 (lcx 0 (fun _ => 0) (fun _ => 0)) := ⟨⟨fun i hi => absurd hi (by omega), fun i k _ hk => absurd hk (by omega)⟩, fun i hi => absurd hi (by omega), fun i k _ hk => absurd hk (by omega)⟩
    have hC1 : CSt g mo V1 0 0 (arZ A) (acZ A) (fun _ => 0) (fun _ => 0) zs := ⟨F6, F7, hmo1, (hE1 _ (by omega)).trans h6, (hE1 _ (by omega)).trans h7, fun i hi => absurd hi (by omega), fun i hi => absurd hi (by omega), hM.kept (fun a ha => hE1 a (by unfold EN at ha; omega)), fun i hi => absurd hi (by omega)⟩
    have hJb : ∀ a b, a < S.r x + S.r y → b < 5 → ab (JM (S.N x) (S.N y) (S.r x) a b) ≤ 1000 := fun a b ha hb => by
      show ab (if a < S.r x then S.N x (5 * a + b) else S.N y (5 * (a - S.r x) + b)) ≤ 1000
      split
      · have := (o1 x hx).2.2.2.1 (5 * a + b) (by omega); unfold ab; omega
      · have := (o1 y hy).2.2.2.1 (5 * (a - S.r x) + b) (by omega); unfold ab; omega
    refine aw_aload_n dX6_join_15 (by rfl) (Or.inr ⟨_, rfl⟩) ?_
    refine aw_iload_n dX6_join_16 (by rfl) ?_
    refine aw_iconstZ dX6_join_17 ?_
    refine aw_topi (y := ((0 : Nat) : Int)) rfl ?_
    refine aw_callv vX6_198 dX6_join_18 hmo1 (m_brings g d (t := x) (fr := 0) (NJ := JM (S.N x) (S.N y) (S.r x)) (S := S) hC1 hst0 (SpEq.of (fun i hi => absurd hi (by omega)) (fun i hi => absurd hi (by omega))) (by omega) (hT.kept (fun a h1 h2 => hE1 a (by omega))) hx (by omega) (by omega) (o1 x hx).2.2.2.1 (fun a b ha hb => hJb a b (by omega) hb) (fun i j hi hj => by rw [Nat.zero_add]; exact if_pos hi)) (by rfl) (by rfl) (by omega) (Nat.le_of_ble_eq_true rfl) ?_
    rintro _ V2 _ _ _ ⟨rfl, rfl, rfl, hE2, rfl, r2, κ2, l2, lk2, z2, hC2, hst2, hsp2, hn2, hF2⟩ -
    refine q0 ?_
    rw [Nat.zero_add] at hsp2 hn2
    obtain ⟨_, _, hmo2, _⟩ := id hC2
    obtain ⟨_, RR2, _, _, _, _, p2, _, _, _, p6⟩ := hT.kept (V' := V2) (fun a h1 h2 => (hE2 a (by unfold EC; omega)).trans (hE1 a (by omega)))
    refine aw_aload_n dX6_join_21 (by rfl) (Or.inr ⟨_, rfl⟩) ?_
    refine aw_iload_n dX6_join_22 (by rfl) ?_
    refine aw_aload_n dX6_join_23 (by rfl) (Or.inr ⟨_, rfl⟩) ?_
    refine aw_get fX6_37 dX6_join_24 hmo2 (by rfl) ?_
    refine aw_iload_n dX6_join_27 (by rfl) ?_
    refine aw_ialdZ (x) dX6_join_28 p2 (by omega) (by omega) (by omega) ?_
    rw [(p6 x hx).2.1]
    refine aw_callv vX6_198 dX6_join_29 hmo2 (m_brings g d (t := y) (fr := S.r x) (NJ := JM (S.N x) (S.N y) (S.r x)) (S := S) hC2 hst2 hsp2 hn2 (hT.kept (fun a h1 h2 => (hE2 a (by unfold EC; omega)).trans (hE1 a (by omega)))) hy (by omega) (by omega) (o1 y hy).2.2.2.1 hJb (fun i j hi hj => by show (if S.r x + i < S.r x then _ else S.N y (5 * (S.r x + i - S.r x) + j)) = _; rw [if_neg (by omega), show S.r x + i - S.r x = i by omega])) (by rfl) (by rfl) (by omega) (Nat.le_of_ble_eq_true rfl) ?_
    rintro _ V3 _ _ _ ⟨rfl, rfl, rfl, hE3, rfl, r3, κ3, l3, lk3, z3, hC3, hst3, hsp3, hn3, hF3⟩ -
    refine q0 ?_
    obtain ⟨RW3, RK3, hmo3, hra3, hrk3, hl3, hlk3, hM3, hl53⟩ := hC3
    obtain ⟨k1, k2, k3, k4⟩ := cp_main (o1 x hx).2.1 (by omega) hst3 hl53 hsp3 (N := jN (S.N x) (S.N y) (S.r x)) (c := S.c x) (fun i j hi hj => by
      rw [jN_at hj]
      split
      · rfl
      · show (if i < S.r x then S.N x (5 * i + j) else S.N y (5 * (i - S.r x) + j)) = 0
        split
        · exact (o1 x hx).2.2.2.2.2.1 i j (by omega) hj (Or.inr (Or.inl (by omega)))
        · exact (o1 y hy).2.2.2.2.2.1 (i - S.r x) j (by omega) hj (Or.inr (Or.inl (by omega))))
    obtain ⟨TH, RR, CC, NN, HH, t1, t2, t3, t4, t5, t6⟩ := hT.kept (V' := V3) (fun a h1 h2 => (hE3 a (by unfold EC; omega)).trans ((hE2 a (by unfold EC; omega)).trans (hE1 a (by omega))))
    refine aw_aload_n dX6_join_32 (by rfl) (Or.inr ⟨_, rfl⟩) ?_
    refine aw_aload_n dX6_join_33 (by rfl) (Or.inr ⟨_, rfl⟩) ?_
    refine aw_get fX6_40 dX6_join_34 hmo3 (by rfl) ?_
    refine aw_iload_n dX6_join_37 (by rfl) ?_
    refine aw_ialdZ (x) dX6_join_38 t3 (by omega) (by omega) (by omega) ?_
    rw [(t6 x hx).2.2.1]
    refine aw_callv vX6_201 dX6_join_39 hmo3 (m_stairTold g (d + 6) (wd := S.c x) hmo3 hM3 (by omega)) (by rfl) (by rfl) (by omega) (Nat.le_of_ble_eq_true rfl) ?_
    rintro _ V4 _ _ _ ⟨rfl, rfl, rfl, hE4, rfl, hmo4, z4, hM4, hC4⟩ -
    refine q0 ?_
    obtain ⟨s1, s2⟩ := stair_of k1 k2 (cp_split k3)
    refine aw_iret dX6_join_42 rfl (by rfl) ?_
    refine ⟨rfl, rfl, rfl, fun a ha => (hE4 a (fun z => ha (by unfold EM; omega))).trans ((hE3 a (fun z => ha (by unfold EC at z; unfold EM; omega))).trans ((hE2 a (fun z => ha (by unfold EC at z; unfold EM; omega))).trans (hE1 a (fun z => ha (by unfold EM; omega))))), z4, S, _, hR.tell (h := r3) (w := S.c x) (B := CPx (S.c x) r3 z3) hmo4 ((hE4 _ (by omega)).trans hra3) ((hE4 _ (by omega)).trans hrk3) (fun a h1 h2 => (hE4 a (by omega)).trans ((hE3 a (by unfold EC; omega)).trans ((hE2 a (by unfold EC; omega)).trans (hE1 a (by omega))))) hM4 (fun i j hi hj => ?_) (by omega) (o1 x hx).2.1, Or.inl ⟨x, y, hx, hy, rfl, rfl, hrx, hry, hcc, rfl, r3, _, _, s1, SpEq.tr (SpEq.cong (fun i hi j hj => ?_)) s2, rfl, rfl, rfl, rfl, fun _ _ _ _ => rfl⟩⟩
    · rw [hC4.1 i j (by have := (o1 x hx).2.1; omega), cp_s hi hj]
    · exact (jN_at (by have := (o1 x hx).2.1; omega)).symm
  · have hno := alZ_no hc_6
    refine aw_iconstZ dX6_join_9 ?_
    refine aw_iret dX6_join_10 rfl (by rfl) ?_
    exact ⟨rfl, rfl, rfl, fun _ _ => rfl, zs, S, A, hR, Or.inr ⟨hno, rfl, rfl, rfl⟩⟩

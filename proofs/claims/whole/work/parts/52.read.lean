/-! ===== get, answer, sign, bits, length, count ===== -/
def spGet (S : TSt) (t i j : Int) : Int := if 0 ≤ t ∧ t < 12 ∧ 0 ≤ i ∧ i < S.r t.toNat ∧ 0 ≤ j ∧ j < S.c t.toNat then S.N t.toNat (5 * i.toNat + j.toNat) else -10000
def spAns (A : ASt) (q : Int) : Int := if A.t = 0 then -1 else if q = 0 then A.h else if q = 1 then A.w else -1
def inA (A : ASt) (i j : Int) : Prop := 0 ≤ i ∧ i < A.h ∧ 0 ≤ j ∧ j < A.w
theorem inA.no {A : ASt} {i j : Int} (h : ¬ inA A i j) : ¬ (0 ≤ i ∧ i < A.h ∧ 0 ≤ j ∧ j < A.w) := h
theorem told_ex {b : Nat} {A : ASt} {ρ : Nat → Nat} (i j : Int) (h : inA A i j) : ∃ n m : Nat, i = (n : Int) ∧ j = (m : Int) ∧ n < A.h ∧ m < A.w := by
  obtain ⟨h1, h2, h3, h4⟩ := h
  exact ⟨i.toNat, j.toNat, by omega, by omega, by omega, by omega⟩
abbrev mX5_get : MI := (yX5_get, cX5_get, 5, (some FieldType.int), noX)
theorem dX5_get_0 : decode cX5_get 0 = .ok (.aload_n 0, 1) := by decide +kernel
theorem dX5_get_1 : decode cX5_get 1 = .ok (.iload_n 1, 1) := by decide +kernel
theorem dX5_get_2 : decode cX5_get 2 = .ok (.invokevirtual 72, 3) := by decide +kernel
theorem dX5_get_5 : decode cX5_get 5 = .ok (.astore 4, 2) := by decide +kernel
theorem dX5_get_7 : decode cX5_get 7 = .ok (.aload 4, 2) := by decide +kernel
theorem dX5_get_9 : decode cX5_get 9 = .ok (.ifnull 25, 3) := by decide +kernel
theorem dX5_get_12 : decode cX5_get 12 = .ok (.aload 4, 2) := by decide +kernel
theorem dX5_get_14 : decode cX5_get 14 = .ok (.iload_n 2, 1) := by decide +kernel
theorem dX5_get_15 : decode cX5_get 15 = .ok (.invokevirtual 76, 3) := by decide +kernel
theorem dX5_get_18 : decode cX5_get 18 = .ok (.ifCond .eq 16, 3) := by decide +kernel
theorem dX5_get_21 : decode cX5_get 21 = .ok (.iload_n 3, 1) := by decide +kernel
theorem dX5_get_22 : decode cX5_get 22 = .ok (.ifCond .lt 12, 3) := by decide +kernel
theorem dX5_get_25 : decode cX5_get 25 = .ok (.iload_n 3, 1) := by decide +kernel
theorem dX5_get_26 : decode cX5_get 26 = .ok (.aload 4, 2) := by decide +kernel
theorem dX5_get_28 : decode cX5_get 28 = .ok (.getfield 79, 3) := by decide +kernel
theorem dX5_get_31 : decode cX5_get 31 = .ok (.if_icmp .lt 7, 3) := by decide +kernel
theorem dX5_get_34 : decode cX5_get 34 = .ok (.sipush (-10000), 3) := by decide +kernel
theorem dX5_get_37 : decode cX5_get 37 = .ok (.ireturn, 1) := by decide +kernel
theorem dX5_get_38 : decode cX5_get 38 = .ok (.aload 4, 2) := by decide +kernel
theorem dX5_get_40 : decode cX5_get 40 = .ok (.getfield 86, 3) := by decide +kernel
theorem dX5_get_43 : decode cX5_get 43 = .ok (.iload_n 2, 1) := by decide +kernel
theorem dX5_get_44 : decode cX5_get 44 = .ok (.iconst 5, 1) := by decide +kernel
theorem dX5_get_45 : decode cX5_get 45 = .ok (.imul, 1) := by decide +kernel
theorem dX5_get_46 : decode cX5_get 46 = .ok (.iload_n 3, 1) := by decide +kernel
theorem dX5_get_47 : decode cX5_get 47 = .ok (.iadd, 1) := by decide +kernel
theorem dX5_get_48 : decode cX5_get 48 = .ok (.iaload, 1) := by decide +kernel
theorem dX5_get_49 : decode cX5_get 49 = .ok (.ireturn, 1) := by decide +kernel
theorem c_get {g : GX} {b : Nat} {X : Nat → Prop} {V : AH} {sz : Nat} {Z : Nat → Int} {S : TSt} {A : ASt} (d : Nat) {t i j : Int} (h : CX g b X V Z S A) (ht : R32 t) (hi : R32 i) (hj : R32 j) : AMet g mX5_get (d + 2) [.ref b, .int (iZ t), .int (iZ i), .int (iZ j)] V sz (Ex (some (.int (iZ (spGet S t i j)))) V sz 0 0) := by
  obtain ⟨⟨hb, hb1⟩, hTb, hOk, -⟩ := id h
  obtain ⟨v, hv⟩ := FindV.ex S b t
  rcases hv with ⟨n, hn, rfl, hr, rfl⟩ | ⟨hno, rfl⟩
  · obtain ⟨hT1, hT2, hT3, -⟩ := hTb n hn
    obtain ⟨hr5, hc5, -⟩ := hOk n hn
    have hio : ¬ (if 0 ≤ i ∧ i < (S.r n : Int) then (1 : Int) else 0) = 0 → 0 ≤ i ∧ i < (S.r n : Int) := fun q => by
      by_cases h1 : 0 ≤ i ∧ i < (S.r n : Int)
      · exact h1
      · rw [if_neg h1] at q; exact absurd rfl q
    refine AMet.of rfl rfl (Nat.le_of_ble_eq_true rfl) ?_
    show AW g mX5_get (d + 2) 0 [(0, .ref b), (1, .int (iZ n)), (2, .int (iZ i)), (3, .int (iZ j))] [] V sz _
    refine aw_aload_n dX5_get_0 (by rfl) (Or.inr ⟨_, rfl⟩) ?_
    refine aw_iload_n dX5_get_1 (by rfl) ?_
    refine aw_callv vX5_72 dX5_get_2 hb (t_find d h ht (Or.inl ⟨n, hn, rfl, hr, rfl⟩)) (by rfl) (by rfl) (by omega) (Nat.le_of_ble_eq_true rfl) ?_
    rintro _ _ _ _ _ ⟨rfl, rfl, rfl, rfl, rfl⟩ -
    refine q0 ?_
    refine aw_astore dX5_get_5 (by decide) (Or.inr ⟨_, rfl⟩) ?_
    refine aw_aload dX5_get_7 (by rfl) (Or.inr ⟨_, rfl⟩) ?_
    refine aw_ifnull_r dX5_get_9 ?_
    refine aw_aload dX5_get_12 (by rfl) (Or.inr ⟨_, rfl⟩) ?_
    refine aw_iload_n dX5_get_14 (by rfl) ?_
    refine aw_callv vX5_76 dX5_get_15 hT1 (t_hasRow g d (hTb n hn) (by omega) hi) (by rfl) (by rfl) (by omega) (Nat.le_of_ble_eq_true rfl) ?_
    rintro _ _ _ _ _ ⟨rfl, rfl, rfl, rfl, rfl⟩ -
    refine q0 ?_
    refine aw_if_eqZ (tgt := 34) dX5_get_18 (by decide) (by split <;> omega) (fun hc_18 => ?_) (fun hc_18 => ?_)
    · have hno : ¬ (0 ≤ i ∧ i < (S.r n : Int)) := fun q => by rw [if_pos q] at hc_18; exact absurd hc_18 (by decide)
      refine aw_sipushZ dX5_get_34 (by decide) ?_
      refine aw_iret dX5_get_37 rfl (by rfl) ?_
      rw [show spGet S n i j = -10000 by unfold spGet; rw [Int.toNat_natCast]; exact if_neg (fun q => by first | omega | exact hno ⟨q.2.2.1, q.2.2.2.1⟩)]
      exact ⟨rfl, rfl, rfl, rfl, rfl⟩
    · refine aw_iload_n dX5_get_21 (by rfl) ?_
      refine aw_if_ltZ (tgt := 34) dX5_get_22 (by decide) (by omega) (fun hc_22 => ?_) (fun hc_22 => ?_)
      · refine aw_sipushZ dX5_get_34 (by decide) ?_
        refine aw_iret dX5_get_37 rfl (by rfl) ?_
        rw [show spGet S n i j = -10000 by unfold spGet; rw [Int.toNat_natCast]; exact if_neg (fun q => by first | omega | exact hno ⟨q.2.2.1, q.2.2.2.1⟩)]
        exact ⟨rfl, rfl, rfl, rfl, rfl⟩
      · refine aw_iload_n dX5_get_25 (by rfl) ?_
        refine aw_aload dX5_get_26 (by rfl) (Or.inr ⟨_, rfl⟩) ?_
        refine aw_get fX5_79 dX5_get_28 (by assumption) (by rfl) ?_
        refine aw_icmp_ltZ (tgt := 38) dX5_get_31 (by decide) (by omega) (by omega) (fun hc_31 => ?_) (fun hc_31 => ?_)
        · have hii := hio hc_18
          refine aw_aload dX5_get_38 (by rfl) (Or.inr ⟨_, rfl⟩) ?_
          refine aw_get fX5_86 dX5_get_40 (by assumption) (by rfl) ?_
          refine aw_iload_n dX5_get_43 (by rfl) ?_
          refine aw_iconstZ dX5_get_44 ?_
          refine aw_imulZ dX5_get_45 ?_
          refine aw_iload_n dX5_get_46 (by rfl) ?_
          refine aw_iaddZ dX5_get_47 ?_
          have hii := hio hc_18
          
          refine aw_ialdZ (5 * i.toNat + j.toNat) dX5_get_48 (by assumption) (by omega) (by omega) (by omega) ?_
          refine aw_iret dX5_get_49 rfl (by rfl) ?_
          rw [show spGet S n i j = S.N n (5 * i.toNat + j.toNat) by unfold spGet; rw [Int.toNat_natCast]; exact if_pos (by omega)]
          exact ⟨rfl, rfl, rfl, rfl, rfl⟩
        · refine aw_sipushZ dX5_get_34 (by decide) ?_
          refine aw_iret dX5_get_37 rfl (by rfl) ?_
          rw [show spGet S n i j = -10000 by unfold spGet; rw [Int.toNat_natCast]; exact if_neg (fun q => by first | omega | exact hno ⟨q.2.2.1, q.2.2.2.1⟩)]
          exact ⟨rfl, rfl, rfl, rfl, rfl⟩
  · skip
    refine AMet.of rfl rfl (Nat.le_of_ble_eq_true rfl) ?_
    show AW g mX5_get (d + 2) 0 [(0, .ref b), (1, .int (iZ t)), (2, .int (iZ i)), (3, .int (iZ j))] [] V sz _
    refine aw_aload_n dX5_get_0 (by rfl) (Or.inr ⟨_, rfl⟩) ?_
    refine aw_iload_n dX5_get_1 (by rfl) ?_
    refine aw_callv vX5_72 dX5_get_2 hb (t_find d h ht (Or.inr ⟨hno, rfl⟩)) (by rfl) (by rfl) (by omega) (Nat.le_of_ble_eq_true rfl) ?_
    rintro _ _ _ _ _ ⟨rfl, rfl, rfl, rfl, rfl⟩ -
    refine q0 ?_
    refine aw_astore dX5_get_5 (by decide) (Or.inl rfl) ?_
    refine aw_aload dX5_get_7 (by rfl) (Or.inl rfl) ?_
    refine aw_ifnull_n (tgt := 34) dX5_get_9 (by decide) ?_
    refine aw_sipushZ dX5_get_34 (by decide) ?_
    refine aw_iret dX5_get_37 rfl (by rfl) ?_
    rw [show spGet S t i j = -10000 by unfold spGet; exact if_neg (fun q => by have := hno t.toNat (by omega) (by omega); omega)]
    exact ⟨rfl, rfl, rfl, rfl, rfl⟩
abbrev mX5_answer : MI := (yX5_answer, cX5_answer, 2, (some FieldType.int), noX)
theorem dX5_answer_0 : decode cX5_answer 0 = .ok (.aload_n 0, 1) := by decide +kernel
theorem dX5_answer_1 : decode cX5_answer 1 = .ok (.getfield 31, 3) := by decide +kernel
theorem dX5_answer_4 : decode cX5_answer 4 = .ok (.ifCond .ne 5, 3) := by decide +kernel
theorem dX5_answer_7 : decode cX5_answer 7 = .ok (.iconst (-1), 1) := by decide +kernel
theorem dX5_answer_8 : decode cX5_answer 8 = .ok (.ireturn, 1) := by decide +kernel
theorem dX5_answer_9 : decode cX5_answer 9 = .ok (.iload_n 1, 1) := by decide +kernel
theorem dX5_answer_10 : decode cX5_answer 10 = .ok (.ifCond .ne 11, 3) := by decide +kernel
theorem dX5_answer_13 : decode cX5_answer 13 = .ok (.aload_n 0, 1) := by decide +kernel
theorem dX5_answer_14 : decode cX5_answer 14 = .ok (.getfield 27, 3) := by decide +kernel
theorem dX5_answer_17 : decode cX5_answer 17 = .ok (.getfield 111, 3) := by decide +kernel
theorem dX5_answer_20 : decode cX5_answer 20 = .ok (.ireturn, 1) := by decide +kernel
theorem dX5_answer_21 : decode cX5_answer 21 = .ok (.iload_n 1, 1) := by decide +kernel
theorem dX5_answer_22 : decode cX5_answer 22 = .ok (.iconst 1, 1) := by decide +kernel
theorem dX5_answer_23 : decode cX5_answer 23 = .ok (.if_icmp .ne 13, 3) := by decide +kernel
theorem dX5_answer_26 : decode cX5_answer 26 = .ok (.aload_n 0, 1) := by decide +kernel
theorem dX5_answer_27 : decode cX5_answer 27 = .ok (.getfield 27, 3) := by decide +kernel
theorem dX5_answer_30 : decode cX5_answer 30 = .ok (.getfield 114, 3) := by decide +kernel
theorem dX5_answer_33 : decode cX5_answer 33 = .ok (.goto 4, 3) := by decide +kernel
theorem dX5_answer_36 : decode cX5_answer 36 = .ok (.iconst (-1), 1) := by decide +kernel
theorem dX5_answer_37 : decode cX5_answer 37 = .ok (.ireturn, 1) := by decide +kernel
theorem c_answer {g : GX} {b : Nat} {X : Nat → Prop} {V : AH} {sz : Nat} {Z : Nat → Int} {S : TSt} {A : ASt} (d : Nat) {q : Int} (h : CX g b X V Z S A) (hq : R32 q) : AMet g mX5_answer d [.ref b, .int (iZ q)] V sz (Ex (some (.int (iZ (spAns A q)))) V sz 0 0) := by
  obtain ⟨⟨hb, hb1⟩, -, -, -, ⟨ld, ρ, hGD, -⟩, hA, -⟩ := id h
  obtain ⟨hA1, hAh, hAw, -⟩ := id hA
  have hgd : V (b + 17) = some (grO (b + 17 + 21) (b + 17 + 20) (b + 17 + 1) (b + 17 + 16) (b + 17 + 18) A.h A.w) := hGD.1
  refine AMet.of rfl rfl (Nat.le_of_ble_eq_true rfl) ?_
  show AW g mX5_answer d 0 [(0, .ref b), (1, .int (iZ q))] [] V sz _
  refine aw_aload_n dX5_answer_0 (by rfl) (Or.inr ⟨_, rfl⟩) ?_
  refine aw_get fX5_31 dX5_answer_1 (by assumption) (by rfl) ?_
  refine aw_if_neZ (tgt := 9) dX5_answer_4 (by decide) (by omega) (fun hc_4 => ?_) (fun hc_4 => ?_)
  · refine aw_iload_n dX5_answer_9 (by rfl) ?_
    refine aw_if_neZ (tgt := 21) dX5_answer_10 (by decide) (by omega) (fun hc_10 => ?_) (fun hc_10 => ?_)
    · refine aw_iload_n dX5_answer_21 (by rfl) ?_
      refine aw_iconstZ dX5_answer_22 ?_
      refine aw_icmp_neZ (tgt := 36) dX5_answer_23 (by decide) (by omega) (by omega) (fun hc_23 => ?_) (fun hc_23 => ?_)
      · refine aw_iconstZ dX5_answer_36 ?_
        refine aw_iret dX5_answer_37 rfl (by rfl) ?_
        first | (rw [show spAns A q = A.w by unfold spAns; rw [if_neg (by omega), if_neg (by omega), if_pos (by omega)]]; exact ⟨rfl, rfl, rfl, rfl, rfl⟩) | (rw [show spAns A q = -1 by unfold spAns; rw [if_neg (by omega), if_neg (by omega), if_neg (by omega)]]; exact ⟨rfl, rfl, rfl, rfl, rfl⟩)
      · refine aw_aload_n dX5_answer_26 (by rfl) (Or.inr ⟨_, rfl⟩) ?_
        refine aw_get fX5_27 dX5_answer_27 (by assumption) (by rfl) ?_
        refine aw_get fX5_114 dX5_answer_30 (by assumption) (by rfl) ?_
        refine aw_goto (tgt := 37) dX5_answer_33 (by decide) ?_
        refine aw_iret dX5_answer_37 rfl (by rfl) ?_
        first | (rw [show spAns A q = A.w by unfold spAns; rw [if_neg (by omega), if_neg (by omega), if_pos (by omega)]]; exact ⟨rfl, rfl, rfl, rfl, rfl⟩) | (rw [show spAns A q = -1 by unfold spAns; rw [if_neg (by omega), if_neg (by omega), if_neg (by omega)]]; exact ⟨rfl, rfl, rfl, rfl, rfl⟩)
    · refine aw_aload_n dX5_answer_13 (by rfl) (Or.inr ⟨_, rfl⟩) ?_
      refine aw_get fX5_27 dX5_answer_14 (by assumption) (by rfl) ?_
      refine aw_get fX5_111 dX5_answer_17 (by assumption) (by rfl) ?_
      refine aw_iret dX5_answer_20 rfl (by rfl) ?_
      rw [show spAns A q = A.h by unfold spAns; rw [if_neg (by omega), if_pos (by omega)]]
      exact ⟨rfl, rfl, rfl, rfl, rfl⟩
  · refine aw_iconstZ dX5_answer_7 ?_
    refine aw_iret dX5_answer_8 rfl (by rfl) ?_
    rw [show spAns A q = -1 by unfold spAns; exact if_pos (by omega)]
    exact ⟨rfl, rfl, rfl, rfl, rfl⟩
def spSign (A : ASt) (i j : Int) : Int := if 0 ≤ i ∧ i < A.h ∧ 0 ≤ j ∧ j < A.w then (A.m i.toNat j.toNat).sign else -2
def spBits (A : ASt) (i j k : Int) : Int := if (0 ≤ i ∧ i < A.h ∧ 0 ≤ j ∧ j < A.w) ∧ 0 ≤ k then ((A.m i.toNat j.toNat).natAbs : Int) / 2 ^ (32 * k.toNat) else 0
def spLen (A : ASt) (i j q : Int) : Prop := (∃ n k c : Nat, i = (n : Int) ∧ j = (k : Int) ∧ n < A.h ∧ k < A.w ∧ BL (A.m n k) c ∧ q = (c : Int)) ∨ (¬ inA A i j ∧ q = -1)
abbrev mX5_sign : MI := (yX5_sign, cX5_sign, 4, (some FieldType.int), noX)
theorem dX5_sign_0 : decode cX5_sign 0 = .ok (.aload_n 0, 1) := by decide +kernel
theorem dX5_sign_1 : decode cX5_sign 1 = .ok (.iload_n 1, 1) := by decide +kernel
theorem dX5_sign_2 : decode cX5_sign 2 = .ok (.iload_n 2, 1) := by decide +kernel
theorem dX5_sign_3 : decode cX5_sign 3 = .ok (.invokevirtual 117, 3) := by decide +kernel
theorem dX5_sign_6 : decode cX5_sign 6 = .ok (.astore_n 3, 1) := by decide +kernel
theorem dX5_sign_7 : decode cX5_sign 7 = .ok (.aload_n 3, 1) := by decide +kernel
theorem dX5_sign_8 : decode cX5_sign 8 = .ok (.ifnonnull 8, 3) := by decide +kernel
theorem dX5_sign_11 : decode cX5_sign 11 = .ok (.bipush (-2), 2) := by decide +kernel
theorem dX5_sign_13 : decode cX5_sign 13 = .ok (.goto 7, 3) := by decide +kernel
theorem dX5_sign_16 : decode cX5_sign 16 = .ok (.aload_n 3, 1) := by decide +kernel
theorem dX5_sign_17 : decode cX5_sign 17 = .ok (.getfield 121, 3) := by decide +kernel
theorem dX5_sign_20 : decode cX5_sign 20 = .ok (.ireturn, 1) := by decide +kernel
theorem c_sign {g : GX} {b : Nat} {X : Nat → Prop} {V : AH} {sz : Nat} {Z : Nat → Int} {S : TSt} {A : ASt} (d : Nat) {i j : Int} {P L : Nat → Nat} (hw0 : WG g (wsB b) (SAB b X) V sz Z P L) (h : CX g b X V Z S A) (hi : R32 i) (hj : R32 j) : AMet g mX5_sign (d + 1) [.ref b, .int (iZ i), .int (iZ j)] V sz (Ex (some (.int (iZ (spSign A i j)))) V sz 0 0) := by
  obtain ⟨⟨hb, hb1⟩, -, -, -, ⟨ld, ρ, hGD, hAm⟩, hA, -⟩ := id h
  obtain ⟨-, hAh, hAw, -⟩ := id hA
  obtain ⟨-, -, -, -, hcell, -⟩ := gst_T b X
  by_cases hno : inA A i j
  · obtain ⟨n, k, rfl, rfl, hn, hk⟩ := told_ex (b := b) (ρ := ρ) i j hno
    have hcl := (hcell _ (hGD.2.2.2.2.1 n (show n < 10 by omega)) k (show k < 5 by omega)).1.1
    obtain ⟨nw, Fw, hWw⟩ := hw0.raw hcl
    have hWwo := hWw.1
    have hz : Z ((GT b).ga (ρ n) k) = A.m n k := hAm n k hn hk
    refine AMet.of rfl rfl (Nat.le_of_ble_eq_true rfl) ?_
    show AW g mX5_sign (d + 1) 0 [(0, .ref b), (1, .int (iZ n)), (2, .int (iZ k))] [] V sz _
    refine aw_aload_n dX5_sign_0 (by rfl) (Or.inr ⟨_, rfl⟩) ?_
    refine aw_iload_n dX5_sign_1 (by rfl) ?_
    refine aw_iload_n dX5_sign_2 (by rfl) ?_
    refine aw_callv vX5_117 dX5_sign_3 hb (t_toldAt (d) h hGD hi hj (Or.inl ⟨n, k, rfl, rfl, hn, hk, rfl⟩)) (by rfl) (by rfl) (by omega) (Nat.le_of_ble_eq_true rfl) ?_
    rintro _ _ _ _ _ ⟨rfl, rfl, rfl, rfl, rfl⟩ -
    refine q0 ?_
    refine aw_astore_n dX5_sign_6 (by decide) (Or.inr ⟨_, rfl⟩) ?_
    refine aw_aload_n dX5_sign_7 (by rfl) (Or.inr ⟨_, rfl⟩) ?_
    refine aw_ifnonnull_r (tgt := 16) dX5_sign_8 (by decide) ?_
    refine aw_aload_n dX5_sign_16 (by rfl) (Or.inr ⟨_, rfl⟩) ?_
    refine aw_get fX5_121 dX5_sign_17 (by assumption) (by rfl) ?_
    refine aw_iret dX5_sign_20 rfl (by rfl) ?_
    rw [hz, show spSign A n k = (A.m n k).sign by unfold spSign; rw [Int.toNat_natCast, Int.toNat_natCast]; exact if_pos hno]
    exact ⟨rfl, rfl, rfl, rfl, rfl⟩
  · skip
    refine AMet.of rfl rfl (Nat.le_of_ble_eq_true rfl) ?_
    show AW g mX5_sign (d + 1) 0 [(0, .ref b), (1, .int (iZ i)), (2, .int (iZ j))] [] V sz _
    refine aw_aload_n dX5_sign_0 (by rfl) (Or.inr ⟨_, rfl⟩) ?_
    refine aw_iload_n dX5_sign_1 (by rfl) ?_
    refine aw_iload_n dX5_sign_2 (by rfl) ?_
    refine aw_callv vX5_117 dX5_sign_3 hb (t_toldAt (d) h hGD hi hj (Or.inr ⟨hno, rfl⟩)) (by rfl) (by rfl) (by omega) (Nat.le_of_ble_eq_true rfl) ?_
    rintro _ _ _ _ _ ⟨rfl, rfl, rfl, rfl, rfl⟩ -
    refine q0 ?_
    refine aw_astore_n dX5_sign_6 (by decide) (Or.inl rfl) ?_
    refine aw_aload_n dX5_sign_7 (by rfl) (Or.inl rfl) ?_
    refine aw_ifnonnull_n dX5_sign_8 ?_
    refine aw_bipushZ dX5_sign_11 (by decide) ?_
    refine aw_goto (tgt := 20) dX5_sign_13 (by decide) ?_
    refine aw_iret dX5_sign_20 rfl (by rfl) ?_
    rw [show spSign A i j = -2 by unfold spSign; exact if_neg hno]
    exact ⟨rfl, rfl, rfl, rfl, rfl⟩
abbrev mX5_bits : MI := (yX5_bits, cX5_bits, 5, (some FieldType.int), noX)
theorem dX5_bits_0 : decode cX5_bits 0 = .ok (.aload_n 0, 1) := by decide +kernel
theorem dX5_bits_1 : decode cX5_bits 1 = .ok (.iload_n 1, 1) := by decide +kernel
theorem dX5_bits_2 : decode cX5_bits 2 = .ok (.iload_n 2, 1) := by decide +kernel
theorem dX5_bits_3 : decode cX5_bits 3 = .ok (.invokevirtual 117, 3) := by decide +kernel
theorem dX5_bits_6 : decode cX5_bits 6 = .ok (.astore 4, 2) := by decide +kernel
theorem dX5_bits_8 : decode cX5_bits 8 = .ok (.aload 4, 2) := by decide +kernel
theorem dX5_bits_10 : decode cX5_bits 10 = .ok (.ifnull 7, 3) := by decide +kernel
theorem dX5_bits_13 : decode cX5_bits 13 = .ok (.iload_n 3, 1) := by decide +kernel
theorem dX5_bits_14 : decode cX5_bits 14 = .ok (.ifCond .ge 7, 3) := by decide +kernel
theorem dX5_bits_17 : decode cX5_bits 17 = .ok (.iconst 0, 1) := by decide +kernel
theorem dX5_bits_18 : decode cX5_bits 18 = .ok (.goto 9, 3) := by decide +kernel
theorem dX5_bits_21 : decode cX5_bits 21 = .ok (.aload 4, 2) := by decide +kernel
theorem dX5_bits_23 : decode cX5_bits 23 = .ok (.iload_n 3, 1) := by decide +kernel
theorem dX5_bits_24 : decode cX5_bits 24 = .ok (.invokevirtual 126, 3) := by decide +kernel
theorem dX5_bits_27 : decode cX5_bits 27 = .ok (.ireturn, 1) := by decide +kernel
theorem c_bits {g : GX} {b : Nat} {X : Nat → Prop} {V : AH} {sz : Nat} {Z : Nat → Int} {S : TSt} {A : ASt} (d : Nat) {i j q : Int} {P L : Nat → Nat} (hw0 : WG g (wsB b) (SAB b X) V sz Z P L) (h : CX g b X V Z S A) (hi : R32 i) (hj : R32 j) (hq : R32 q) : AMet g mX5_bits (d + 2) [.ref b, .int (iZ i), .int (iZ j), .int (iZ q)] V sz (Ex (some (.int (iZ (spBits A i j q)))) V sz 0 0) := by
  obtain ⟨⟨hb, hb1⟩, -, -, -, ⟨ld, ρ, hGD, hAm⟩, hA, -⟩ := id h
  obtain ⟨-, hAh, hAw, -⟩ := id hA
  obtain ⟨-, -, -, -, hcell, -⟩ := gst_T b X
  by_cases hno : inA A i j
  · obtain ⟨n, k, rfl, rfl, hn, hk⟩ := told_ex (b := b) (ρ := ρ) i j hno
    have hcl := (hcell _ (hGD.2.2.2.2.1 n (show n < 10 by omega)) k (show k < 5 by omega)).1.1
    obtain ⟨nw, Fw, hWw⟩ := hw0.raw hcl
    have hWwo := hWw.1
    have hz : Z ((GT b).ga (ρ n) k) = A.m n k := hAm n k hn hk
    refine AMet.of rfl rfl (Nat.le_of_ble_eq_true rfl) ?_
    show AW g mX5_bits (d + 2) 0 [(0, .ref b), (1, .int (iZ n)), (2, .int (iZ k)), (3, .int (iZ q))] [] V sz _
    refine aw_aload_n dX5_bits_0 (by rfl) (Or.inr ⟨_, rfl⟩) ?_
    refine aw_iload_n dX5_bits_1 (by rfl) ?_
    refine aw_iload_n dX5_bits_2 (by rfl) ?_
    refine aw_callv vX5_117 dX5_bits_3 hb (t_toldAt (d) h hGD hi hj (Or.inl ⟨n, k, rfl, rfl, hn, hk, rfl⟩)) (by rfl) (by rfl) (by omega) (Nat.le_of_ble_eq_true rfl) ?_
    rintro _ _ _ _ _ ⟨rfl, rfl, rfl, rfl, rfl⟩ -
    refine q0 ?_
    refine aw_astore dX5_bits_6 (by decide) (Or.inr ⟨_, rfl⟩) ?_
    refine aw_aload dX5_bits_8 (by rfl) (Or.inr ⟨_, rfl⟩) ?_
    refine aw_ifnull_r dX5_bits_10 ?_
    refine aw_iload_n dX5_bits_13 (by rfl) ?_
    refine aw_if_geZ (tgt := 21) dX5_bits_14 (by decide) (by omega) (fun hc_14 => ?_) (fun hc_14 => ?_)
    · refine aw_aload dX5_bits_21 (by rfl) (Or.inr ⟨_, rfl⟩) ?_
      refine aw_iload_n dX5_bits_23 (by rfl) ?_
      rw [show q = ((q.toNat : Nat) : Int) by omega]
      refine aw_callv vX5_126 dX5_bits_24 hWwo (t_word g d (k := q.toNat) (hw0.2.1 _ hcl) (by omega)) (by rfl) (by rfl) (by omega) (Nat.le_of_ble_eq_true rfl) ?_
      rintro _ _ _ _ _ ⟨rfl, rfl, rfl, rfl, rfl⟩ -
      refine q0 ?_
      refine aw_iret dX5_bits_27 rfl (by rfl) ?_
      first | (rw [show spBits A n k ((q.toNat : Nat) : Int) = ((A.m n k).natAbs : Int) / 2 ^ (32 * q.toNat) by unfold spBits; rw [Int.toNat_natCast, Int.toNat_natCast, Int.toNat_natCast]; exact if_pos ⟨hno, by omega⟩, hz]; exact ⟨rfl, rfl, rfl, rfl, rfl⟩) | (rw [show spBits A n k q = 0 by unfold spBits; exact if_neg (fun z => by omega)]; exact ⟨rfl, rfl, rfl, rfl, rfl⟩)
    · refine aw_iconstZ dX5_bits_17 ?_
      refine aw_goto (tgt := 27) dX5_bits_18 (by decide) ?_
      refine aw_iret dX5_bits_27 rfl (by rfl) ?_
      first | (rw [show spBits A n k ((q.toNat : Nat) : Int) = ((A.m n k).natAbs : Int) / 2 ^ (32 * q.toNat) by unfold spBits; rw [Int.toNat_natCast, Int.toNat_natCast, Int.toNat_natCast]; exact if_pos ⟨hno, by omega⟩, hz]; exact ⟨rfl, rfl, rfl, rfl, rfl⟩) | (rw [show spBits A n k q = 0 by unfold spBits; exact if_neg (fun z => by omega)]; exact ⟨rfl, rfl, rfl, rfl, rfl⟩)
  · skip
    refine AMet.of rfl rfl (Nat.le_of_ble_eq_true rfl) ?_
    show AW g mX5_bits (d + 2) 0 [(0, .ref b), (1, .int (iZ i)), (2, .int (iZ j)), (3, .int (iZ q))] [] V sz _
    refine aw_aload_n dX5_bits_0 (by rfl) (Or.inr ⟨_, rfl⟩) ?_
    refine aw_iload_n dX5_bits_1 (by rfl) ?_
    refine aw_iload_n dX5_bits_2 (by rfl) ?_
    refine aw_callv vX5_117 dX5_bits_3 hb (t_toldAt (d) h hGD hi hj (Or.inr ⟨hno, rfl⟩)) (by rfl) (by rfl) (by omega) (Nat.le_of_ble_eq_true rfl) ?_
    rintro _ _ _ _ _ ⟨rfl, rfl, rfl, rfl, rfl⟩ -
    refine q0 ?_
    refine aw_astore dX5_bits_6 (by decide) (Or.inl rfl) ?_
    refine aw_aload dX5_bits_8 (by rfl) (Or.inl rfl) ?_
    refine aw_ifnull_n (tgt := 17) dX5_bits_10 (by decide) ?_
    refine aw_iconstZ dX5_bits_17 ?_
    refine aw_goto (tgt := 27) dX5_bits_18 (by decide) ?_
    refine aw_iret dX5_bits_27 rfl (by rfl) ?_
    rw [show spBits A i j q = 0 by unfold spBits; exact if_neg (fun z => hno z.1)]
    exact ⟨rfl, rfl, rfl, rfl, rfl⟩
abbrev mX5_length : MI := (yX5_length, cX5_length, 4, (some FieldType.int), noX)
theorem dX5_length_0 : decode cX5_length 0 = .ok (.aload_n 0, 1) := by decide +kernel
theorem dX5_length_1 : decode cX5_length 1 = .ok (.iload_n 1, 1) := by decide +kernel
theorem dX5_length_2 : decode cX5_length 2 = .ok (.iload_n 2, 1) := by decide +kernel
theorem dX5_length_3 : decode cX5_length 3 = .ok (.invokevirtual 117, 3) := by decide +kernel
theorem dX5_length_6 : decode cX5_length 6 = .ok (.astore_n 3, 1) := by decide +kernel
theorem dX5_length_7 : decode cX5_length 7 = .ok (.aload_n 3, 1) := by decide +kernel
theorem dX5_length_8 : decode cX5_length 8 = .ok (.ifnonnull 7, 3) := by decide +kernel
theorem dX5_length_11 : decode cX5_length 11 = .ok (.iconst (-1), 1) := by decide +kernel
theorem dX5_length_12 : decode cX5_length 12 = .ok (.goto 7, 3) := by decide +kernel
theorem dX5_length_15 : decode cX5_length 15 = .ok (.aload_n 3, 1) := by decide +kernel
theorem dX5_length_16 : decode cX5_length 16 = .ok (.invokevirtual 130, 3) := by decide +kernel
theorem dX5_length_19 : decode cX5_length 19 = .ok (.ireturn, 1) := by decide +kernel
theorem c_length {g : GX} {b : Nat} {X : Nat → Prop} {V : AH} {sz : Nat} {Z : Nat → Int} {S : TSt} {A : ASt} (d : Nat) {i j : Int} {P L : Nat → Nat} (hw0 : WG g (wsB b) (SAB b X) V sz Z P L) (h : CX g b X V Z S A) (hi : R32 i) (hj : R32 j) : AMet g mX5_length (d + 2) [.ref b, .int (iZ i), .int (iZ j)] V sz (fun r V' sz' mc ms => (∃ q : Int, spLen A i j q ∧ -1 ≤ q ∧ q ≤ 5000 ∧ some (.int (iZ q)) = r) ∧ V = V' ∧ sz = sz' ∧ 0 = mc ∧ 0 = ms) := by
  obtain ⟨⟨hb, hb1⟩, -, -, -, ⟨ld, ρ, hGD, hAm⟩, hA, -⟩ := id h
  obtain ⟨-, hAh, hAw, -⟩ := id hA
  obtain ⟨-, -, -, -, hcell, -⟩ := gst_T b X
  by_cases hno : inA A i j
  · obtain ⟨n, k, rfl, rfl, hn, hk⟩ := told_ex (b := b) (ρ := ρ) i j hno
    have hcl := (hcell _ (hGD.2.2.2.2.1 n (show n < 10 by omega)) k (show k < 5 by omega)).1.1
    obtain ⟨nw, Fw, hWw⟩ := hw0.raw hcl
    have hWwo := hWw.1
    have hz : Z ((GT b).ga (ρ n) k) = A.m n k := hAm n k hn hk
    refine AMet.of rfl rfl (Nat.le_of_ble_eq_true rfl) ?_
    show AW g mX5_length (d + 2) 0 [(0, .ref b), (1, .int (iZ n)), (2, .int (iZ k))] [] V sz _
    refine aw_aload_n dX5_length_0 (by rfl) (Or.inr ⟨_, rfl⟩) ?_
    refine aw_iload_n dX5_length_1 (by rfl) ?_
    refine aw_iload_n dX5_length_2 (by rfl) ?_
    refine aw_callv vX5_117 dX5_length_3 hb (t_toldAt (d) h hGD hi hj (Or.inl ⟨n, k, rfl, rfl, hn, hk, rfl⟩)) (by rfl) (by rfl) (by omega) (Nat.le_of_ble_eq_true rfl) ?_
    rintro _ _ _ _ _ ⟨rfl, rfl, rfl, rfl, rfl⟩ -
    simp only [Nat.zero_add]
    refine aw_astore_n dX5_length_6 (by decide) (Or.inr ⟨_, rfl⟩) ?_
    refine aw_aload_n dX5_length_7 (by rfl) (Or.inr ⟨_, rfl⟩) ?_
    refine aw_ifnonnull_r (tgt := 15) dX5_length_8 (by decide) ?_
    refine aw_aload_n dX5_length_15 (by rfl) (Or.inr ⟨_, rfl⟩) ?_
    refine aw_callv vX5_130 dX5_length_16 hWwo (t_bitLength g d (hw0.2.1 _ hcl)) (by rfl) (by rfl) (by omega) (Nat.le_of_ble_eq_true rfl) ?_
    rintro _ _ _ _ _ ⟨⟨c, hc1, hc2, rfl⟩, rfl, rfl, rfl, rfl⟩ -
    simp only [Nat.zero_add]
    refine aw_iret dX5_length_19 rfl (by rfl) ?_
    exact ⟨⟨_, Or.inl ⟨n, k, c, rfl, rfl, hn, hk, by rw [← hz]; exact hc1, rfl⟩, by omega, by omega, rfl⟩, rfl, rfl, rfl, rfl⟩
  · skip
    refine AMet.of rfl rfl (Nat.le_of_ble_eq_true rfl) ?_
    show AW g mX5_length (d + 2) 0 [(0, .ref b), (1, .int (iZ i)), (2, .int (iZ j))] [] V sz _
    refine aw_aload_n dX5_length_0 (by rfl) (Or.inr ⟨_, rfl⟩) ?_
    refine aw_iload_n dX5_length_1 (by rfl) ?_
    refine aw_iload_n dX5_length_2 (by rfl) ?_
    refine aw_callv vX5_117 dX5_length_3 hb (t_toldAt (d) h hGD hi hj (Or.inr ⟨hno, rfl⟩)) (by rfl) (by rfl) (by omega) (Nat.le_of_ble_eq_true rfl) ?_
    rintro _ _ _ _ _ ⟨rfl, rfl, rfl, rfl, rfl⟩ -
    simp only [Nat.zero_add]
    refine aw_astore_n dX5_length_6 (by decide) (Or.inl rfl) ?_
    refine aw_aload_n dX5_length_7 (by rfl) (Or.inl rfl) ?_
    refine aw_ifnonnull_n dX5_length_8 ?_
    refine aw_iconstZ dX5_length_11 ?_
    refine aw_goto (tgt := 19) dX5_length_12 (by decide) ?_
    refine aw_iret dX5_length_19 rfl (by rfl) ?_
    exact ⟨⟨-1, Or.inr ⟨hno, rfl⟩, by omega, by omega, rfl⟩, rfl, rfl, rfl, rfl⟩
abbrev mX5_count : MI := (yX5_count, cX5_count, 5, (some FieldType.int), noX)
theorem dX5_count_0 : decode cX5_count 0 = .ok (.iconst 0, 1) := by decide +kernel
theorem dX5_count_1 : decode cX5_count 1 = .ok (.istore_n 2, 1) := by decide +kernel
theorem dX5_count_2 : decode cX5_count 2 = .ok (.iconst 0, 1) := by decide +kernel
theorem dX5_count_3 : decode cX5_count 3 = .ok (.istore_n 3, 1) := by decide +kernel
theorem dX5_count_4 : decode cX5_count 4 = .ok (.iconst 0, 1) := by decide +kernel
theorem dX5_count_5 : decode cX5_count 5 = .ok (.istore 4, 2) := by decide +kernel
theorem dX5_count_7 : decode cX5_count 7 = .ok (.iload 4, 2) := by decide +kernel
theorem dX5_count_9 : decode cX5_count 9 = .ok (.bipush 12, 2) := by decide +kernel
theorem dX5_count_11 : decode cX5_count 11 = .ok (.if_icmp .ge 38, 3) := by decide +kernel
theorem dX5_count_14 : decode cX5_count 14 = .ok (.aload_n 0, 1) := by decide +kernel
theorem dX5_count_15 : decode cX5_count 15 = .ok (.getfield 11, 3) := by decide +kernel
theorem dX5_count_18 : decode cX5_count 18 = .ok (.iload 4, 2) := by decide +kernel
theorem dX5_count_20 : decode cX5_count 20 = .ok (.aaload, 1) := by decide +kernel
theorem dX5_count_21 : decode cX5_count 21 = .ok (.getfield 96, 3) := by decide +kernel
theorem dX5_count_24 : decode cX5_count 24 = .ok (.ifCond .le 19, 3) := by decide +kernel
theorem dX5_count_27 : decode cX5_count 27 = .ok (.iinc 2 1, 3) := by decide +kernel
theorem dX5_count_30 : decode cX5_count 30 = .ok (.iload_n 3, 1) := by decide +kernel
theorem dX5_count_31 : decode cX5_count 31 = .ok (.aload_n 0, 1) := by decide +kernel
theorem dX5_count_32 : decode cX5_count 32 = .ok (.getfield 11, 3) := by decide +kernel
theorem dX5_count_35 : decode cX5_count 35 = .ok (.iload 4, 2) := by decide +kernel
theorem dX5_count_37 : decode cX5_count 37 = .ok (.aaload, 1) := by decide +kernel
theorem dX5_count_38 : decode cX5_count 38 = .ok (.invokevirtual 99, 3) := by decide +kernel
theorem dX5_count_41 : decode cX5_count 41 = .ok (.iadd, 1) := by decide +kernel
theorem dX5_count_42 : decode cX5_count 42 = .ok (.istore_n 3, 1) := by decide +kernel
theorem dX5_count_43 : decode cX5_count 43 = .ok (.iinc 4 1, 3) := by decide +kernel
theorem dX5_count_46 : decode cX5_count 46 = .ok (.goto (-39), 3) := by decide +kernel
theorem dX5_count_49 : decode cX5_count 49 = .ok (.iload_n 1, 1) := by decide +kernel
theorem dX5_count_50 : decode cX5_count 50 = .ok (.ifCond .ne 5, 3) := by decide +kernel
theorem dX5_count_53 : decode cX5_count 53 = .ok (.iload_n 2, 1) := by decide +kernel
theorem dX5_count_54 : decode cX5_count 54 = .ok (.ireturn, 1) := by decide +kernel
theorem dX5_count_55 : decode cX5_count 55 = .ok (.iload_n 1, 1) := by decide +kernel
theorem dX5_count_56 : decode cX5_count 56 = .ok (.iconst 1, 1) := by decide +kernel
theorem dX5_count_57 : decode cX5_count 57 = .ok (.if_icmp .ne 7, 3) := by decide +kernel
theorem dX5_count_60 : decode cX5_count 60 = .ok (.iload_n 3, 1) := by decide +kernel
theorem dX5_count_61 : decode cX5_count 61 = .ok (.goto 4, 3) := by decide +kernel
theorem dX5_count_64 : decode cX5_count 64 = .ok (.iconst (-1), 1) := by decide +kernel
theorem dX5_count_65 : decode cX5_count 65 = .ok (.ireturn, 1) := by decide +kernel
def cnS (S : TSt) (n : Nat) : Int := Sg (fun t => if 0 < S.r t then 1 else 0) n
def lvS (S : TSt) (n : Nat) : Int := Sg (fun t => if 0 < S.r t then Sg (S.H t) (S.r t) else 0) n
def spCnt (S : TSt) (q : Int) : Int := if q = 0 then cnS S 12 else if q = 1 then lvS S 12 else -1
theorem ct_loop (d : Nat) {g : GX} {b : Nat} {X : Nat → Prop} {V : AH} {sz : Nat} {Z : Nat → Int} {S : TSt} {A : ASt} {q : Int} (h : CX g b X V Z S A) (hq : R32 q) : ∀ (x t : Nat), t + x = 12 → AW g mX5_count (d + 1) 7 [(4, .int (iZ t)), (3, .int (iZ (lvS S t))), (2, .int (iZ (cnS S t))), (0, .ref b), (1, .int (iZ q))] [] V sz (Ex (some (.int (iZ (spCnt S q)))) V sz 0 0)
  | 0, t, hx => by
    obtain ⟨⟨hb, hb1⟩, hTb, hOk, -⟩ := id h
    refine aw_iload dX5_count_7 (by rfl) ?_
    refine aw_bipushZ dX5_count_9 (by decide) ?_
    refine aw_icmp_geZ (tgt := 49) dX5_count_11 (by decide) (by omega) (by omega) (fun hc_11 => ?_) (fun hc_11 => ?_)
    · obtain rfl : t = 12 := by omega
      refine aw_iload_n dX5_count_49 (by rfl) ?_
      refine aw_if_neZ (tgt := 55) dX5_count_50 (by decide) (by omega) (fun hc_50 => ?_) (fun hc_50 => ?_)
      · refine aw_iload_n dX5_count_55 (by rfl) ?_
        refine aw_iconstZ dX5_count_56 ?_
        refine aw_icmp_neZ (tgt := 64) dX5_count_57 (by decide) (by omega) (by omega) (fun hc_57 => ?_) (fun hc_57 => ?_)
        · refine aw_iconstZ dX5_count_64 ?_
          refine aw_iret dX5_count_65 rfl (by rfl) ?_
          first | (rw [show spCnt S q = lvS S 12 by unfold spCnt; rw [if_neg hc_50, if_pos hc_57]]; exact ⟨rfl, rfl, rfl, rfl, rfl⟩) | (rw [show spCnt S q = -1 by unfold spCnt; rw [if_neg hc_50, if_neg hc_57]]; exact ⟨rfl, rfl, rfl, rfl, rfl⟩)
        · refine aw_iload_n dX5_count_60 (by rfl) ?_
          refine aw_goto (tgt := 65) dX5_count_61 (by decide) ?_
          refine aw_iret dX5_count_65 rfl (by rfl) ?_
          first | (rw [show spCnt S q = lvS S 12 by unfold spCnt; rw [if_neg hc_50, if_pos hc_57]]; exact ⟨rfl, rfl, rfl, rfl, rfl⟩) | (rw [show spCnt S q = -1 by unfold spCnt; rw [if_neg hc_50, if_neg hc_57]]; exact ⟨rfl, rfl, rfl, rfl, rfl⟩)
      · refine aw_iload_n dX5_count_53 (by rfl) ?_
        refine aw_iret dX5_count_54 rfl (by rfl) ?_
        rw [show spCnt S q = cnS S 12 by unfold spCnt; exact if_pos hc_50]
        exact ⟨rfl, rfl, rfl, rfl, rfl⟩
    · exact absurd hc_11 (by omega)
  | x + 1, t, hx => by
    obtain ⟨⟨hb, hb1⟩, hTb, hOk, -⟩ := id h
    have IH := fun t ht => ct_loop d (sz := sz) h hq x t ht
    refine aw_iload dX5_count_7 (by rfl) ?_
    refine aw_bipushZ dX5_count_9 (by decide) ?_
    refine aw_icmp_geZ (tgt := 49) dX5_count_11 (by decide) (by omega) (by omega) (fun hc_11 => ?_) (fun hc_11 => ?_)
    · exact absurd hc_11 (by omega)
    · obtain ⟨hT1, hT2, hT3, -⟩ := hTb t (by omega)
      obtain ⟨hr5, hc5, -, -, hH, -⟩ := hOk t (by omega)
      refine aw_aload_n dX5_count_14 (by rfl) (Or.inr ⟨_, rfl⟩) ?_
      refine aw_get fX5_11 dX5_count_15 (by assumption) (by rfl) ?_
      refine aw_iload dX5_count_18 (by rfl) ?_
      refine aw_aaldZ (t0 := 3) (t) (by rfl) dX5_count_20 (by assumption) (by omega) (by omega) (by omega) ?_
      refine aw_get fX5_96 dX5_count_21 (by assumption) (by rfl) ?_
      refine aw_if_leZ (tgt := 43) dX5_count_24 (by decide) (by omega) (fun hc_24 => ?_) (fun hc_24 => ?_)
      · refine aw_iincZ dX5_count_43 (by rfl) (by decide) ?_
        refine aw_goto (tgt := 7) dX5_count_46 (by decide) ?_
        rw [show ((t : Int) + 1) = ((t + 1 : Nat) : Int) by omega]
        refine aw_pk [4, 3, 2, 0, 1] (by rfl) ?_
        first
        | exact (show cnS S (t + 1) = cnS S t + 1 by show cnS S t + (if 0 < S.r t then 1 else 0) = _; rw [if_pos (by omega)]) ▸ (show lvS S (t + 1) = lvS S t + Sg (S.H t) (S.r t) by show lvS S t + (if 0 < S.r t then _ else _) = _; rw [if_pos (by omega)]) ▸ IH (t + 1) (by omega)
        | exact (show cnS S (t + 1) = cnS S t by show cnS S t + (if 0 < S.r t then 1 else 0) = _; rw [if_neg (by omega), Int.add_zero]) ▸ (show lvS S (t + 1) = lvS S t by show lvS S t + (if 0 < S.r t then _ else _) = _; rw [if_neg (by omega), Int.add_zero]) ▸ IH (t + 1) (by omega)
      · refine aw_iincZ dX5_count_27 (by rfl) (by decide) ?_
        refine aw_iload_n dX5_count_30 (by rfl) ?_
        refine aw_aload_n dX5_count_31 (by rfl) (Or.inr ⟨_, rfl⟩) ?_
        refine aw_get fX5_11 dX5_count_32 (by assumption) (by rfl) ?_
        refine aw_iload dX5_count_35 (by rfl) ?_
        refine aw_aaldZ (t0 := 3) (t) (by rfl) dX5_count_37 (by assumption) (by omega) (by omega) (by omega) ?_
        refine aw_callv vX5_99 dX5_count_38 hT1 (t_leavesThere g d (hTb t (by omega)) hr5 hH) (by rfl) (by rfl) (by omega) (Nat.le_of_ble_eq_true rfl) ?_
        rintro _ _ _ _ _ ⟨rfl, rfl, rfl, rfl, rfl⟩ -
        refine q0 ?_
        refine aw_iaddZ dX5_count_41 ?_
        refine aw_istore_n dX5_count_42 (by decide) ?_
        refine aw_iincZ dX5_count_43 (by rfl) (by decide) ?_
        refine aw_goto (tgt := 7) dX5_count_46 (by decide) ?_
        rw [show ((t : Int) + 1) = ((t + 1 : Nat) : Int) by omega]
        refine aw_pk [4, 3, 2, 0, 1] (by rfl) ?_
        first
        | exact (show cnS S (t + 1) = cnS S t + 1 by show cnS S t + (if 0 < S.r t then 1 else 0) = _; rw [if_pos (by omega)]) ▸ (show lvS S (t + 1) = lvS S t + Sg (S.H t) (S.r t) by show lvS S t + (if 0 < S.r t then _ else _) = _; rw [if_pos (by omega)]) ▸ IH (t + 1) (by omega)
        | exact (show cnS S (t + 1) = cnS S t by show cnS S t + (if 0 < S.r t then 1 else 0) = _; rw [if_neg (by omega), Int.add_zero]) ▸ (show lvS S (t + 1) = lvS S t by show lvS S t + (if 0 < S.r t then _ else _) = _; rw [if_neg (by omega), Int.add_zero]) ▸ IH (t + 1) (by omega)
theorem c_count {g : GX} {b : Nat} {X : Nat → Prop} {V : AH} {sz : Nat} {Z : Nat → Int} {S : TSt} {A : ASt} (d : Nat) {q : Int} (h : CX g b X V Z S A) (hq : R32 q) : AMet g mX5_count (d + 1) [.ref b, .int (iZ q)] V sz (Ex (some (.int (iZ (spCnt S q)))) V sz 0 0) := by
  refine AMet.of rfl rfl (Nat.le_of_ble_eq_true rfl) ?_
  show AW g mX5_count (d + 1) 0 [(0, .ref b), (1, .int (iZ q))] [] V sz _
  refine aw_iconstZ dX5_count_0 ?_
  refine aw_istore_n dX5_count_1 (by decide) ?_
  refine aw_iconstZ dX5_count_2 ?_
  refine aw_istore_n dX5_count_3 (by decide) ?_
  refine aw_iconstZ dX5_count_4 ?_
  refine aw_istore dX5_count_5 (by decide) ?_
  refine aw_pk [4, 3, 2, 0, 1] (by rfl) ?_
  exact ct_loop d h hq 12 0 (by omega)

/-! ===== Whole: reads, copy, compareSize ===== -/
theorem mg_hi {B : Int} {F G : Nat → Int} {m : Nat} : ∀ {n : Nat}, m ≤ n → (∀ j, m ≤ j → j < n → F j = G j) → mg B F n - mg B G n = mg B F m - mg B G m
  | 0, hm, _ => by
    obtain rfl : m = 0 := by omega
    rfl
  | n + 1, hm, h => by
    by_cases hq : m = n + 1
    · subst hq; rfl
    · have ih := mg_hi (B := B) (F := F) (G := G) (m := m) (n := n) (by omega) (fun j h1 h2 => h j h1 (by omega))
      simp only [mg]
      rw [h n (by omega) (by omega)]
      omega
theorem mg_lt_of {B : Int} (hB : 0 < B) {F G : Nat → Int} {k n : Nat} (hk : k < n) (hF : ∀ j, j < n → 0 ≤ F j ∧ F j < B) (hG : ∀ j, j < n → 0 ≤ G j ∧ G j < B) (h : ∀ j, k + 1 ≤ j → j < n → F j = G j) (hlt : F k < G k) : mg B F n < mg B G n := by
  have h1 := mg_hi (B := B) (m := k + 1) (n := n) (by omega) h
  have h2 := (mg_bd hB (F := F) (n := k) (fun j hj => hF j (by omega))).2
  have h3 := (mg_bd hB (F := G) (n := k) (fun j hj => hG j (by omega))).1
  have hp := pw_pos hB k
  have h4 : (F k + 1) * B ^ k ≤ G k * B ^ k := Int.mul_le_mul_of_nonneg_right (by omega) (by omega)
  rw [Int.add_mul, Int.one_mul] at h4
  simp only [mg] at h1
  omega
theorem mg_len_lt {B : Int} (hB : 1 < B) {F G : Nat → Int} {n m : Nat} (hF : ∀ j, j < n → 0 ≤ F j ∧ F j < B) (hG : ∀ j, j < m → 0 ≤ G j ∧ G j < B) (ht : m = 0 ∨ G (m - 1) ≠ 0) (h : n < m) : mg B F n < mg B G m := by
  obtain ⟨q, rfl⟩ : ∃ q, m = q + 1 := ⟨m - 1, by omega⟩
  have h1 := (mg_bd (by omega) hF).2
  have h2 := mg_top (by omega) hG (by rcases ht with h0 | h0; exact absurd h0 (by omega); simpa using h0)
  have h3 := pw_le (show (1 : Int) ≤ B by omega) (show n ≤ q by omega)
  omega
abbrev mX4_isShort : MI := (yX4_isShort, cX4_isShort, 1, (some FieldType.boolean), noX)
theorem dX4_isShort_0 : decode cX4_isShort 0 = .ok (.aload_n 0, 1) := by decide +kernel
theorem dX4_isShort_1 : decode cX4_isShort 1 = .ok (.getfield 15, 3) := by decide +kernel
theorem dX4_isShort_4 : decode cX4_isShort 4 = .ok (.iconst 2, 1) := by decide +kernel
theorem dX4_isShort_5 : decode cX4_isShort 5 = .ok (.if_icmp .gt 7, 3) := by decide +kernel
theorem dX4_isShort_8 : decode cX4_isShort 8 = .ok (.iconst 1, 1) := by decide +kernel
theorem dX4_isShort_9 : decode cX4_isShort 9 = .ok (.goto 4, 3) := by decide +kernel
theorem dX4_isShort_12 : decode cX4_isShort 12 = .ok (.iconst 0, 1) := by decide +kernel
theorem dX4_isShort_13 : decode cX4_isShort 13 = .ok (.ireturn, 1) := by decide +kernel
theorem t_isShort (g : GX) (d : Nat) {w p L n : Nat} {F : Nat → Int} {s : Int} {V : AH} {sz : Nat} (hW : Whl g V w s n p L F) : AMet g mX4_isShort d [.ref w] V sz (Ex (some (.int (iZ (if n ≤ 2 then 1 else 0)))) V sz 0 0) := by
  obtain ⟨hw, hp, hwp, hn, h4, hL, hF⟩ := hW
  refine AMet.of rfl rfl (Nat.le_of_ble_eq_true rfl) ?_
  show AW g mX4_isShort d 0 [(0, .ref w)] [] V sz _
  refine aw_aload_n dX4_isShort_0 (by rfl) (Or.inr ⟨_, rfl⟩) ?_
  refine aw_get fX4_15 dX4_isShort_1 (by assumption) (by rfl) ?_
  refine aw_iconstZ dX4_isShort_4 ?_
  refine aw_icmp_gtZ (tgt := 12) dX4_isShort_5 (by decide) (by omega) (by omega) (fun hc_5 => ?_) (fun hc_5 => ?_)
  · refine aw_iconstZ dX4_isShort_12 ?_
    refine aw_iret dX4_isShort_13 rfl (by rfl) ?_
    exact ⟨by congr 3; split <;> omega, rfl, rfl, rfl, rfl⟩
  · refine aw_iconstZ dX4_isShort_8 ?_
    refine aw_goto (tgt := 13) dX4_isShort_9 (by decide) ?_
    refine aw_iret dX4_isShort_13 rfl (by rfl) ?_
    exact ⟨by congr 3; split <;> omega, rfl, rfl, rfl, rfl⟩
abbrev mX4_shortValue : MI := (yX4_shortValue, cX4_shortValue, 5, (some FieldType.long), noX)
theorem dX4_shortValue_0 : decode cX4_shortValue 0 = .ok (.aload_n 0, 1) := by decide +kernel
theorem dX4_shortValue_1 : decode cX4_shortValue 1 = .ok (.getfield 15, 3) := by decide +kernel
theorem dX4_shortValue_4 : decode cX4_shortValue 4 = .ok (.iconst 1, 1) := by decide +kernel
theorem dX4_shortValue_5 : decode cX4_shortValue 5 = .ok (.if_icmp .le 13, 3) := by decide +kernel
theorem dX4_shortValue_8 : decode cX4_shortValue 8 = .ok (.aload_n 0, 1) := by decide +kernel
theorem dX4_shortValue_9 : decode cX4_shortValue 9 = .ok (.getfield 18, 3) := by decide +kernel
theorem dX4_shortValue_12 : decode cX4_shortValue 12 = .ok (.iconst 1, 1) := by decide +kernel
theorem dX4_shortValue_13 : decode cX4_shortValue 13 = .ok (.iaload, 1) := by decide +kernel
theorem dX4_shortValue_14 : decode cX4_shortValue 14 = .ok (.i2l, 1) := by decide +kernel
theorem dX4_shortValue_15 : decode cX4_shortValue 15 = .ok (.goto 4, 3) := by decide +kernel
theorem dX4_shortValue_18 : decode cX4_shortValue 18 = .ok (.lconst 0, 1) := by decide +kernel
theorem dX4_shortValue_19 : decode cX4_shortValue 19 = .ok (.lstore_n 1, 1) := by decide +kernel
theorem dX4_shortValue_20 : decode cX4_shortValue 20 = .ok (.aload_n 0, 1) := by decide +kernel
theorem dX4_shortValue_21 : decode cX4_shortValue 21 = .ok (.getfield 15, 3) := by decide +kernel
theorem dX4_shortValue_24 : decode cX4_shortValue 24 = .ok (.ifCond .le 13, 3) := by decide +kernel
theorem dX4_shortValue_27 : decode cX4_shortValue 27 = .ok (.aload_n 0, 1) := by decide +kernel
theorem dX4_shortValue_28 : decode cX4_shortValue 28 = .ok (.getfield 18, 3) := by decide +kernel
theorem dX4_shortValue_31 : decode cX4_shortValue 31 = .ok (.iconst 0, 1) := by decide +kernel
theorem dX4_shortValue_32 : decode cX4_shortValue 32 = .ok (.iaload, 1) := by decide +kernel
theorem dX4_shortValue_33 : decode cX4_shortValue 33 = .ok (.i2l, 1) := by decide +kernel
theorem dX4_shortValue_34 : decode cX4_shortValue 34 = .ok (.goto 4, 3) := by decide +kernel
theorem dX4_shortValue_37 : decode cX4_shortValue 37 = .ok (.lconst 0, 1) := by decide +kernel
theorem dX4_shortValue_38 : decode cX4_shortValue 38 = .ok (.lstore_n 3, 1) := by decide +kernel
theorem dX4_shortValue_39 : decode cX4_shortValue 39 = .ok (.lload_n 1, 1) := by decide +kernel
theorem dX4_shortValue_40 : decode cX4_shortValue 40 = .ok (.bipush 31, 2) := by decide +kernel
theorem dX4_shortValue_42 : decode cX4_shortValue 42 = .ok (.lshl, 1) := by decide +kernel
theorem dX4_shortValue_43 : decode cX4_shortValue 43 = .ok (.lload_n 3, 1) := by decide +kernel
theorem dX4_shortValue_44 : decode cX4_shortValue 44 = .ok (.ladd, 1) := by decide +kernel
theorem dX4_shortValue_45 : decode cX4_shortValue 45 = .ok (.lreturn, 1) := by decide +kernel
theorem t_shortValue (g : GX) (d : Nat) {w p L n : Nat} {F : Nat → Int} {s : Int} {V : AH} {sz : Nat} (hW : Whl g V w s n p L F) (hn2 : n ≤ 2) : AMet g mX4_shortValue d [.ref w] V sz (Ex (some (.long (jZ (mg 2147483648 F n)))) V sz 0 0) := by
  obtain ⟨hw, hp, hwp, hn, h4, hL, hF⟩ := hW
  have h0 := hF 0 (by omega)
  have h1 := hF 1 (by omega)
  have e31 : (2 : Int) ^ 31 = 2147483648 := by decide
  have hmg : mg 2147483648 F n = (if n > 1 then F 1 else 0) * 2 ^ 31 + (if n > 0 then F 0 else 0) := by
    rw [e31]
    rcases (show n = 0 ∨ n = 1 ∨ n = 2 by omega) with rfl | rfl | rfl <;> simp [mg] <;> omega
  refine AMet.of rfl rfl (Nat.le_of_ble_eq_true rfl) ?_
  show AW g mX4_shortValue d 0 [(0, .ref w)] [] V sz _
  refine aw_aload_n dX4_shortValue_0 (by rfl) (Or.inr ⟨_, rfl⟩) ?_
  refine aw_get fX4_15 dX4_shortValue_1 (by assumption) (by rfl) ?_
  refine aw_iconstZ dX4_shortValue_4 ?_
  refine aw_icmp_leZ (tgt := 18) dX4_shortValue_5 (by decide) (by omega) (by omega) (fun hc_5 => ?_) (fun hc_5 => ?_)
  · refine aw_lconstZ (z := 0) dX4_shortValue_18 (by decide) ?_
    refine aw_lstore_n dX4_shortValue_19 (by decide) ?_
    refine aw_aload_n dX4_shortValue_20 (by rfl) (Or.inr ⟨_, rfl⟩) ?_
    refine aw_get fX4_15 dX4_shortValue_21 (by assumption) (by rfl) ?_
    refine aw_if_leZ (tgt := 37) dX4_shortValue_24 (by decide) (by omega) (fun hc_24 => ?_) (fun hc_24 => ?_)
    · refine aw_lconstZ (z := 0) dX4_shortValue_37 (by decide) ?_
      refine aw_lstore_n dX4_shortValue_38 (by decide) ?_
      refine aw_lload_n dX4_shortValue_39 (by rfl) ?_
      refine aw_bipushZ dX4_shortValue_40 (by decide) ?_
      refine aw_lshlZ 31 dX4_shortValue_42 (by rfl) (by decide) (by omega) (by rw [e31]; omega) ?_
      refine aw_lload_n dX4_shortValue_43 (by rfl) ?_
      refine aw_laddZ dX4_shortValue_44 ?_
      refine aw_lret dX4_shortValue_45 rfl ?_
      refine ⟨?_, rfl, rfl, rfl, rfl⟩
      first
      | (exfalso; omega)
      | (rw [hmg]
         simp only [gt_iff_lt]
         first | rw [if_pos (show 1 < n by omega)] | rw [if_neg (show ¬ 1 < n by omega)]
         first | rw [if_pos (show 0 < n by omega)] | rw [if_neg (show ¬ 0 < n by omega)])
    · refine aw_aload_n dX4_shortValue_27 (by rfl) (Or.inr ⟨_, rfl⟩) ?_
      refine aw_get fX4_18 dX4_shortValue_28 (by assumption) (by rfl) ?_
      refine aw_iconstZ dX4_shortValue_31 ?_
      refine aw_ialdZ (0) dX4_shortValue_32 (by assumption) (by omega) (by omega) (by omega) ?_
      refine aw_i2lZ dX4_shortValue_33 (by omega) ?_
      refine aw_goto (tgt := 38) dX4_shortValue_34 (by decide) ?_
      refine aw_lstore_n dX4_shortValue_38 (by decide) ?_
      refine aw_lload_n dX4_shortValue_39 (by rfl) ?_
      refine aw_bipushZ dX4_shortValue_40 (by decide) ?_
      refine aw_lshlZ 31 dX4_shortValue_42 (by rfl) (by decide) (by omega) (by rw [e31]; omega) ?_
      refine aw_lload_n dX4_shortValue_43 (by rfl) ?_
      refine aw_laddZ dX4_shortValue_44 ?_
      refine aw_lret dX4_shortValue_45 rfl ?_
      refine ⟨?_, rfl, rfl, rfl, rfl⟩
      first
      | (exfalso; omega)
      | (rw [hmg]
         simp only [gt_iff_lt]
         first | rw [if_pos (show 1 < n by omega)] | rw [if_neg (show ¬ 1 < n by omega)]
         first | rw [if_pos (show 0 < n by omega)] | rw [if_neg (show ¬ 0 < n by omega)])
  · refine aw_aload_n dX4_shortValue_8 (by rfl) (Or.inr ⟨_, rfl⟩) ?_
    refine aw_get fX4_18 dX4_shortValue_9 (by assumption) (by rfl) ?_
    refine aw_iconstZ dX4_shortValue_12 ?_
    refine aw_ialdZ (1) dX4_shortValue_13 (by assumption) (by omega) (by omega) (by omega) ?_
    refine aw_i2lZ dX4_shortValue_14 (by omega) ?_
    refine aw_goto (tgt := 19) dX4_shortValue_15 (by decide) ?_
    refine aw_lstore_n dX4_shortValue_19 (by decide) ?_
    refine aw_aload_n dX4_shortValue_20 (by rfl) (Or.inr ⟨_, rfl⟩) ?_
    refine aw_get fX4_15 dX4_shortValue_21 (by assumption) (by rfl) ?_
    refine aw_if_leZ (tgt := 37) dX4_shortValue_24 (by decide) (by omega) (fun hc_24 => ?_) (fun hc_24 => ?_)
    · refine aw_lconstZ (z := 0) dX4_shortValue_37 (by decide) ?_
      refine aw_lstore_n dX4_shortValue_38 (by decide) ?_
      refine aw_lload_n dX4_shortValue_39 (by rfl) ?_
      refine aw_bipushZ dX4_shortValue_40 (by decide) ?_
      refine aw_lshlZ 31 dX4_shortValue_42 (by rfl) (by decide) (by omega) (by rw [e31]; omega) ?_
      refine aw_lload_n dX4_shortValue_43 (by rfl) ?_
      refine aw_laddZ dX4_shortValue_44 ?_
      refine aw_lret dX4_shortValue_45 rfl ?_
      refine ⟨?_, rfl, rfl, rfl, rfl⟩
      first
      | (exfalso; omega)
      | (rw [hmg]
         simp only [gt_iff_lt]
         first | rw [if_pos (show 1 < n by omega)] | rw [if_neg (show ¬ 1 < n by omega)]
         first | rw [if_pos (show 0 < n by omega)] | rw [if_neg (show ¬ 0 < n by omega)])
    · refine aw_aload_n dX4_shortValue_27 (by rfl) (Or.inr ⟨_, rfl⟩) ?_
      refine aw_get fX4_18 dX4_shortValue_28 (by assumption) (by rfl) ?_
      refine aw_iconstZ dX4_shortValue_31 ?_
      refine aw_ialdZ (0) dX4_shortValue_32 (by assumption) (by omega) (by omega) (by omega) ?_
      refine aw_i2lZ dX4_shortValue_33 (by omega) ?_
      refine aw_goto (tgt := 38) dX4_shortValue_34 (by decide) ?_
      refine aw_lstore_n dX4_shortValue_38 (by decide) ?_
      refine aw_lload_n dX4_shortValue_39 (by rfl) ?_
      refine aw_bipushZ dX4_shortValue_40 (by decide) ?_
      refine aw_lshlZ 31 dX4_shortValue_42 (by rfl) (by decide) (by omega) (by rw [e31]; omega) ?_
      refine aw_lload_n dX4_shortValue_43 (by rfl) ?_
      refine aw_laddZ dX4_shortValue_44 ?_
      refine aw_lret dX4_shortValue_45 rfl ?_
      refine ⟨?_, rfl, rfl, rfl, rfl⟩
      first
      | (exfalso; omega)
      | (rw [hmg]
         simp only [gt_iff_lt]
         first | rw [if_pos (show 1 < n by omega)] | rw [if_neg (show ¬ 1 < n by omega)]
         first | rw [if_pos (show 0 < n by omega)] | rw [if_neg (show ¬ 0 < n by omega)])
abbrev mX4_is : MI := (yX4_is, cX4_is, 3, (some FieldType.boolean), noX)
theorem dX4_is_0 : decode cX4_is 0 = .ok (.aload_n 0, 1) := by decide +kernel
theorem dX4_is_1 : decode cX4_is 1 = .ok (.invokevirtual 40, 3) := by decide +kernel
theorem dX4_is_4 : decode cX4_is 4 = .ok (.ifCond .eq 22, 3) := by decide +kernel
theorem dX4_is_7 : decode cX4_is 7 = .ok (.aload_n 0, 1) := by decide +kernel
theorem dX4_is_8 : decode cX4_is 8 = .ok (.getfield 9, 3) := by decide +kernel
theorem dX4_is_11 : decode cX4_is 11 = .ok (.i2l, 1) := by decide +kernel
theorem dX4_is_12 : decode cX4_is 12 = .ok (.aload_n 0, 1) := by decide +kernel
theorem dX4_is_13 : decode cX4_is 13 = .ok (.invokevirtual 44, 3) := by decide +kernel
theorem dX4_is_16 : decode cX4_is 16 = .ok (.lmul, 1) := by decide +kernel
theorem dX4_is_17 : decode cX4_is 17 = .ok (.lload_n 1, 1) := by decide +kernel
theorem dX4_is_18 : decode cX4_is 18 = .ok (.lcmp, 1) := by decide +kernel
theorem dX4_is_19 : decode cX4_is 19 = .ok (.ifCond .ne 7, 3) := by decide +kernel
theorem dX4_is_22 : decode cX4_is 22 = .ok (.iconst 1, 1) := by decide +kernel
theorem dX4_is_23 : decode cX4_is 23 = .ok (.goto 4, 3) := by decide +kernel
theorem dX4_is_26 : decode cX4_is 26 = .ok (.iconst 0, 1) := by decide +kernel
theorem dX4_is_27 : decode cX4_is 27 = .ok (.ireturn, 1) := by decide +kernel
theorem t_is (g : GX) (d : Nat) {w p L : Nat} {z v : Int} {V : AH} {sz : Nat} (hW : WhV g V w z p L) (hv : -4611686018427387904 < v ∧ v < 4611686018427387904) : AMet g mX4_is (d + 1) [.ref w, .long (jZ v)] V sz (Ex (some (.int (iZ (if z = v then 1 else 0)))) V sz 0 0) := by
  obtain ⟨n, F, hW, hmg, htop⟩ := hW
  obtain ⟨hw, hp, hwp, hn, h4, hL, hF⟩ := id hW
  have hs := sgn_R z
  have hsz : z.sign * (z.natAbs : Int) = z := Int.sign_mul_natAbs z
  have h62 : (2147483648 : Int) ^ 2 = 4611686018427387904 := by decide
  have hbig : ¬ n ≤ 2 → z ≠ v := fun h hz => by
    obtain ⟨q, rfl⟩ : ∃ q, n = q + 1 := ⟨n - 1, by omega⟩
    have h1 := mg_top (show (0 : Int) < 2147483648 by omega) (F := F) (n := q) (fun k hk => hF k (by omega)) (by rcases htop with h0 | h0; exact absurd h0 (by omega); simpa using h0)
    have h2 := pw_le (show (1 : Int) ≤ 2147483648 by omega) (show 2 ≤ q by omega)
    omega
  have hsm : n ≤ 2 → (z.natAbs : Int) < 4611686018427387904 := fun h => by
    have h1 := (mg_bd (show (0 : Int) < 2147483648 by omega) (F := F) (n := n) (fun k hk => hF k (by omega))).2
    have h2 := pw_le (show (1 : Int) ≤ 2147483648 by omega) (show n ≤ 2 by omega)
    omega
  refine AMet.of rfl rfl (Nat.le_of_ble_eq_true rfl) ?_
  show AW g mX4_is (d + 1) 0 [(0, .ref w), (1, .long (jZ v))] [] V sz _
  refine aw_aload_n dX4_is_0 (by rfl) (Or.inr ⟨_, rfl⟩) ?_
  refine aw_callv vX4_40 dX4_is_1 (by assumption) (t_isShort g d hW) (by rfl) (by rfl) (by omega) (Nat.le_of_ble_eq_true rfl) ?_
  rintro _ _ _ _ _ ⟨rfl, rfl, rfl, rfl, rfl⟩ -
  refine aw_if_eqZ (tgt := 26) dX4_is_4 (by decide) (by split <;> omega) (fun hc_4 => ?_) (fun hc_4 => ?_)
  · refine aw_iconstZ dX4_is_26 ?_
    refine aw_iret dX4_is_27 rfl (by rfl) ?_
    refine ⟨?_, rfl, rfl, rfl, rfl⟩
    first | rw [if_pos heq] | rw [if_neg hne] | rw [if_neg (hbig (by revert hc_4; split <;> omega))]
  · have hn2 : n ≤ 2 := by revert hc_4; split <;> omega
    have hlt := hsm hn2
    refine aw_aload_n dX4_is_7 (by rfl) (Or.inr ⟨_, rfl⟩) ?_
    refine aw_get fX4_9 dX4_is_8 (by assumption) (by rfl) ?_
    refine aw_i2lZ dX4_is_11 (by omega) ?_
    refine aw_aload_n dX4_is_12 (by rfl) (Or.inr ⟨_, rfl⟩) ?_
    refine aw_callv vX4_44 dX4_is_13 (by assumption) (t_shortValue g d hW (by revert hc_4; split <;> omega)) (by rfl) (by rfl) (by omega) (Nat.le_of_ble_eq_true rfl) ?_
    rintro _ _ _ _ _ ⟨rfl, rfl, rfl, rfl, rfl⟩ -
    refine aw_lmulZ dX4_is_16 ?_
    refine aw_lload_n dX4_is_17 (by rfl) ?_
    rw [hmg, hsz]
    have hr : R64 z := by omega
    refine aw_lcmpZ dX4_is_18 hr (by omega) ?_
    refine aw_if_neZ (tgt := 26) dX4_is_19 (by decide) (cmpZ_R _ _) (fun hc_19 => ?_) (fun hc_19 => ?_)
    · have hne : z ≠ v := fun h => hc_19 (cmpZ_eq.mpr h)
      refine aw_iconstZ dX4_is_26 ?_
      refine aw_iret dX4_is_27 rfl (by rfl) ?_
      refine ⟨?_, rfl, rfl, rfl, rfl⟩
      first | rw [if_pos heq] | rw [if_neg hne] | rw [if_neg (hbig (by revert hc_4; split <;> omega))]
    · have heq : z = v := cmpZ_eq.mp hc_19
      refine aw_iconstZ dX4_is_22 ?_
      refine aw_goto (tgt := 27) dX4_is_23 (by decide) ?_
      refine aw_iret dX4_is_27 rfl (by rfl) ?_
      refine ⟨?_, rfl, rfl, rfl, rfl⟩
      first | rw [if_pos heq] | rw [if_neg hne] | rw [if_neg (hbig (by revert hc_4; split <;> omega))]
abbrev mX4_limbAt : MI := (yX4_limbAt, cX4_limbAt, 3, (some FieldType.int), noX)
theorem dX4_limbAt_0 : decode cX4_limbAt 0 = .ok (.lload_n 1, 1) := by decide +kernel
theorem dX4_limbAt_1 : decode cX4_limbAt 1 = .ok (.aload_n 0, 1) := by decide +kernel
theorem dX4_limbAt_2 : decode cX4_limbAt 2 = .ok (.getfield 15, 3) := by decide +kernel
theorem dX4_limbAt_5 : decode cX4_limbAt 5 = .ok (.i2l, 1) := by decide +kernel
theorem dX4_limbAt_6 : decode cX4_limbAt 6 = .ok (.lcmp, 1) := by decide +kernel
theorem dX4_limbAt_7 : decode cX4_limbAt 7 = .ok (.ifCond .ge 13, 3) := by decide +kernel
theorem dX4_limbAt_10 : decode cX4_limbAt 10 = .ok (.aload_n 0, 1) := by decide +kernel
theorem dX4_limbAt_11 : decode cX4_limbAt 11 = .ok (.getfield 18, 3) := by decide +kernel
theorem dX4_limbAt_14 : decode cX4_limbAt 14 = .ok (.lload_n 1, 1) := by decide +kernel
theorem dX4_limbAt_15 : decode cX4_limbAt 15 = .ok (.l2i, 1) := by decide +kernel
theorem dX4_limbAt_16 : decode cX4_limbAt 16 = .ok (.iaload, 1) := by decide +kernel
theorem dX4_limbAt_17 : decode cX4_limbAt 17 = .ok (.goto 4, 3) := by decide +kernel
theorem dX4_limbAt_20 : decode cX4_limbAt 20 = .ok (.iconst 0, 1) := by decide +kernel
theorem dX4_limbAt_21 : decode cX4_limbAt 21 = .ok (.ireturn, 1) := by decide +kernel
theorem t_limbAt (g : GX) (d : Nat) {w p L n : Nat} {F : Nat → Int} {s k : Int} {V : AH} {sz : Nat} (hW : Whl g V w s n p L F) (hk : 0 ≤ k ∧ k < 9223372036854775808) : AMet g mX4_limbAt d [.ref w, .long (jZ k)] V sz (Ex (some (.int (iZ (if k < n then F k.toNat else 0)))) V sz 0 0) := by
  obtain ⟨hw, hp, hwp, hn, h4, hL, hF⟩ := hW
  refine AMet.of rfl rfl (Nat.le_of_ble_eq_true rfl) ?_
  show AW g mX4_limbAt d 0 [(0, .ref w), (1, .long (jZ k))] [] V sz _
  refine aw_lload_n dX4_limbAt_0 (by rfl) ?_
  refine aw_aload_n dX4_limbAt_1 (by rfl) (Or.inr ⟨_, rfl⟩) ?_
  refine aw_get fX4_15 dX4_limbAt_2 (by assumption) (by rfl) ?_
  refine aw_i2lZ dX4_limbAt_5 (by omega) ?_
  refine aw_lcmpZ dX4_limbAt_6 (by omega) (by omega) ?_
  refine aw_if_geZ (tgt := 20) dX4_limbAt_7 (by decide) (cmpZ_R _ _) (fun hc_7 => ?_) (fun hc_7 => ?_)
  · have hc := cmpZ_ge.mp hc_7
    refine aw_iconstZ dX4_limbAt_20 ?_
    refine aw_iret dX4_limbAt_21 rfl (by rfl) ?_
    refine ⟨?_, rfl, rfl, rfl, rfl⟩
    first | rw [if_pos (show k < n by omega)] | rw [if_neg (show ¬ k < n by omega)]
  · have hc : ¬ (n : Int) ≤ k := fun h => hc_7 (cmpZ_ge.mpr h)
    refine aw_aload_n dX4_limbAt_10 (by rfl) (Or.inr ⟨_, rfl⟩) ?_
    refine aw_get fX4_18 dX4_limbAt_11 (by assumption) (by rfl) ?_
    refine aw_lload_n dX4_limbAt_14 (by rfl) ?_
    refine aw_l2iZ dX4_limbAt_15 ?_
    refine aw_ialdZ (k.toNat) dX4_limbAt_16 (by assumption) (by omega) (by omega) (by omega) ?_
    refine aw_goto (tgt := 21) dX4_limbAt_17 (by decide) ?_
    refine aw_iret dX4_limbAt_21 rfl (by rfl) ?_
    refine ⟨?_, rfl, rfl, rfl, rfl⟩
    first | rw [if_pos (show k < n by omega)] | rw [if_neg (show ¬ k < n by omega)]
abbrev mX4_compareSize : MI := (yX4_compareSize, cX4_compareSize, 3, (some FieldType.int), noX)
theorem dX4_compareSize_0 : decode cX4_compareSize 0 = .ok (.aload_n 0, 1) := by decide +kernel
theorem dX4_compareSize_1 : decode cX4_compareSize 1 = .ok (.getfield 15, 3) := by decide +kernel
theorem dX4_compareSize_4 : decode cX4_compareSize 4 = .ok (.aload_n 1, 1) := by decide +kernel
theorem dX4_compareSize_5 : decode cX4_compareSize 5 = .ok (.getfield 15, 3) := by decide +kernel
theorem dX4_compareSize_8 : decode cX4_compareSize 8 = .ok (.if_icmp .eq 20, 3) := by decide +kernel
theorem dX4_compareSize_11 : decode cX4_compareSize 11 = .ok (.aload_n 0, 1) := by decide +kernel
theorem dX4_compareSize_12 : decode cX4_compareSize 12 = .ok (.getfield 15, 3) := by decide +kernel
theorem dX4_compareSize_15 : decode cX4_compareSize 15 = .ok (.aload_n 1, 1) := by decide +kernel
theorem dX4_compareSize_16 : decode cX4_compareSize 16 = .ok (.getfield 15, 3) := by decide +kernel
theorem dX4_compareSize_19 : decode cX4_compareSize 19 = .ok (.if_icmp .le 7, 3) := by decide +kernel
theorem dX4_compareSize_22 : decode cX4_compareSize 22 = .ok (.iconst 1, 1) := by decide +kernel
theorem dX4_compareSize_23 : decode cX4_compareSize 23 = .ok (.goto 4, 3) := by decide +kernel
theorem dX4_compareSize_26 : decode cX4_compareSize 26 = .ok (.iconst (-1), 1) := by decide +kernel
theorem dX4_compareSize_27 : decode cX4_compareSize 27 = .ok (.ireturn, 1) := by decide +kernel
theorem dX4_compareSize_28 : decode cX4_compareSize 28 = .ok (.aload_n 0, 1) := by decide +kernel
theorem dX4_compareSize_29 : decode cX4_compareSize 29 = .ok (.getfield 15, 3) := by decide +kernel
theorem dX4_compareSize_32 : decode cX4_compareSize 32 = .ok (.iconst 1, 1) := by decide +kernel
theorem dX4_compareSize_33 : decode cX4_compareSize 33 = .ok (.isub, 1) := by decide +kernel
theorem dX4_compareSize_34 : decode cX4_compareSize 34 = .ok (.istore_n 2, 1) := by decide +kernel
theorem dX4_compareSize_35 : decode cX4_compareSize 35 = .ok (.iload_n 2, 1) := by decide +kernel
theorem dX4_compareSize_36 : decode cX4_compareSize 36 = .ok (.ifCond .lt 45, 3) := by decide +kernel
theorem dX4_compareSize_39 : decode cX4_compareSize 39 = .ok (.aload_n 0, 1) := by decide +kernel
theorem dX4_compareSize_40 : decode cX4_compareSize 40 = .ok (.getfield 18, 3) := by decide +kernel
theorem dX4_compareSize_43 : decode cX4_compareSize 43 = .ok (.iload_n 2, 1) := by decide +kernel
theorem dX4_compareSize_44 : decode cX4_compareSize 44 = .ok (.iaload, 1) := by decide +kernel
theorem dX4_compareSize_45 : decode cX4_compareSize 45 = .ok (.aload_n 1, 1) := by decide +kernel
theorem dX4_compareSize_46 : decode cX4_compareSize 46 = .ok (.getfield 18, 3) := by decide +kernel
theorem dX4_compareSize_49 : decode cX4_compareSize 49 = .ok (.iload_n 2, 1) := by decide +kernel
theorem dX4_compareSize_50 : decode cX4_compareSize 50 = .ok (.iaload, 1) := by decide +kernel
theorem dX4_compareSize_51 : decode cX4_compareSize 51 = .ok (.if_icmp .eq 24, 3) := by decide +kernel
theorem dX4_compareSize_54 : decode cX4_compareSize 54 = .ok (.aload_n 0, 1) := by decide +kernel
theorem dX4_compareSize_55 : decode cX4_compareSize 55 = .ok (.getfield 18, 3) := by decide +kernel
theorem dX4_compareSize_58 : decode cX4_compareSize 58 = .ok (.iload_n 2, 1) := by decide +kernel
theorem dX4_compareSize_59 : decode cX4_compareSize 59 = .ok (.iaload, 1) := by decide +kernel
theorem dX4_compareSize_60 : decode cX4_compareSize 60 = .ok (.aload_n 1, 1) := by decide +kernel
theorem dX4_compareSize_61 : decode cX4_compareSize 61 = .ok (.getfield 18, 3) := by decide +kernel
theorem dX4_compareSize_64 : decode cX4_compareSize 64 = .ok (.iload_n 2, 1) := by decide +kernel
theorem dX4_compareSize_65 : decode cX4_compareSize 65 = .ok (.iaload, 1) := by decide +kernel
theorem dX4_compareSize_66 : decode cX4_compareSize 66 = .ok (.if_icmp .le 7, 3) := by decide +kernel
theorem dX4_compareSize_69 : decode cX4_compareSize 69 = .ok (.iconst 1, 1) := by decide +kernel
theorem dX4_compareSize_70 : decode cX4_compareSize 70 = .ok (.goto 4, 3) := by decide +kernel
theorem dX4_compareSize_73 : decode cX4_compareSize 73 = .ok (.iconst (-1), 1) := by decide +kernel
theorem dX4_compareSize_74 : decode cX4_compareSize 74 = .ok (.ireturn, 1) := by decide +kernel
theorem dX4_compareSize_75 : decode cX4_compareSize 75 = .ok (.iinc 2 (-1), 3) := by decide +kernel
theorem dX4_compareSize_78 : decode cX4_compareSize 78 = .ok (.goto (-43), 3) := by decide +kernel
theorem dX4_compareSize_81 : decode cX4_compareSize 81 = .ok (.iconst 0, 1) := by decide +kernel
theorem dX4_compareSize_82 : decode cX4_compareSize 82 = .ok (.ireturn, 1) := by decide +kernel
theorem cmp_loop (g : GX) (d : Nat) {w p L u q K n : Nat} {F G : Nat → Int} {s t : Int} {V : AH} {sz : Nat} (hW : Whl g V w s n p L F) (hU : Whl g V u t n q K G) : ∀ k : Nat, k ≤ n → (∀ j, k ≤ j → j < n → F j = G j) → AW g mX4_compareSize d 35 [(2, .int (iZ ((k : Int) - 1))), (0, .ref w), (1, .ref u)] [] V sz (Ex (some (.int (iZ (cmpZ (mg 2147483648 F n) (mg 2147483648 G n))))) V sz 0 0)
  | 0, hk, heq => by
    obtain ⟨hw, hp, hwp, hn, h4, hL, hF⟩ := id hW
    obtain ⟨hu, hq, huq, hn', h4', hK, hG⟩ := id hU
    refine aw_iload_n dX4_compareSize_35 (by rfl) ?_
    refine aw_if_ltZ (tgt := 81) dX4_compareSize_36 (by decide) (by omega) (fun hc_36 => ?_) (fun hc_36 => ?_)
    · refine aw_iconstZ dX4_compareSize_81 ?_
      refine aw_iret dX4_compareSize_82 rfl (by rfl) ?_
      refine ⟨?_, rfl, rfl, rfl, rfl⟩
      have e : mg 2147483648 F n = mg 2147483648 G n := mg_congr (fun j hj => heq j (by omega) hj)
      rw [e]
      try (unfold cmpZ; rw [if_neg (Int.lt_irrefl _), if_pos rfl])
      try rfl
    · exact absurd hc_36 (by omega)
  | k + 1, hk, heq => by
    obtain ⟨hw, hp, hwp, hn, h4, hL, hF⟩ := id hW
    obtain ⟨hu, hq, huq, hn', h4', hK, hG⟩ := id hU
    refine aw_iload_n dX4_compareSize_35 (by rfl) ?_
    refine aw_if_ltZ (tgt := 81) dX4_compareSize_36 (by decide) (by omega) (fun hc_36 => ?_) (fun hc_36 => ?_)
    · exact absurd hc_36 (by omega)
    · have h1 := hF k (by omega)
      have h2 := hG k (by omega)
      refine aw_aload_n dX4_compareSize_39 (by rfl) (Or.inr ⟨_, rfl⟩) ?_
      refine aw_get fX4_18 dX4_compareSize_40 (by assumption) (by rfl) ?_
      refine aw_iload_n dX4_compareSize_43 (by rfl) ?_
      refine aw_ialdZ (k) dX4_compareSize_44 (by assumption) (by omega) (by omega) (by omega) ?_
      refine aw_aload_n dX4_compareSize_45 (by rfl) (Or.inr ⟨_, rfl⟩) ?_
      refine aw_get fX4_18 dX4_compareSize_46 (by assumption) (by rfl) ?_
      refine aw_iload_n dX4_compareSize_49 (by rfl) ?_
      refine aw_ialdZ (k) dX4_compareSize_50 (by assumption) (by omega) (by omega) (by omega) ?_
      refine aw_icmp_eqZ (tgt := 75) dX4_compareSize_51 (by decide) (by omega) (by omega) (fun hc_51 => ?_) (fun hc_51 => ?_)
      · refine aw_iincZ dX4_compareSize_75 (by rfl) (by decide) ?_
        refine aw_goto (tgt := 35) dX4_compareSize_78 (by decide) ?_
        have ih := cmp_loop g d hW hU k (by omega) (fun j h1 h2 => by
          by_cases hj : j = k
          · subst hj; exact hc_51
          · exact heq j (by omega) h2) (sz := sz)
        refine aw_lv ?_ ih
        rw [show ((k + 1 : Nat) : Int) - 1 + -1 = (k : Int) - 1 by omega]
        rfl
      · refine aw_aload_n dX4_compareSize_54 (by rfl) (Or.inr ⟨_, rfl⟩) ?_
        refine aw_get fX4_18 dX4_compareSize_55 (by assumption) (by rfl) ?_
        refine aw_iload_n dX4_compareSize_58 (by rfl) ?_
        refine aw_ialdZ (k) dX4_compareSize_59 (by assumption) (by omega) (by omega) (by omega) ?_
        refine aw_aload_n dX4_compareSize_60 (by rfl) (Or.inr ⟨_, rfl⟩) ?_
        refine aw_get fX4_18 dX4_compareSize_61 (by assumption) (by rfl) ?_
        refine aw_iload_n dX4_compareSize_64 (by rfl) ?_
        refine aw_ialdZ (k) dX4_compareSize_65 (by assumption) (by omega) (by omega) (by omega) ?_
        refine aw_icmp_leZ (tgt := 73) dX4_compareSize_66 (by decide) (by omega) (by omega) (fun hc_66 => ?_) (fun hc_66 => ?_)
        · refine aw_iconstZ dX4_compareSize_73 ?_
          refine aw_iret dX4_compareSize_74 rfl (by rfl) ?_
          refine ⟨?_, rfl, rfl, rfl, rfl⟩
          first
          | (have := mg_lt_of (show (0 : Int) < 2147483648 by omega) (F := G) (G := F) (k := k) (n := n) (by omega) (fun j hj => hG j (by omega)) (fun j hj => hF j (by omega)) (fun j h1 h2 => (heq j (by omega) h2).symm) (by omega)
             have e : cmpZ (mg 2147483648 F n) (mg 2147483648 G n) = 1 := by unfold cmpZ; rw [if_pos this]
             rw [e]
             done)
          | (have := mg_lt_of (show (0 : Int) < 2147483648 by omega) (F := F) (G := G) (k := k) (n := n) (by omega) (fun j hj => hF j (by omega)) (fun j hj => hG j (by omega)) (fun j h1 h2 => heq j (by omega) h2) (by omega)
             have e : cmpZ (mg 2147483648 F n) (mg 2147483648 G n) = -1 := by unfold cmpZ; rw [if_neg (by omega), if_neg (by omega)]
             rw [e]
             done)
        · refine aw_iconstZ dX4_compareSize_69 ?_
          refine aw_goto (tgt := 74) dX4_compareSize_70 (by decide) ?_
          refine aw_iret dX4_compareSize_74 rfl (by rfl) ?_
          refine ⟨?_, rfl, rfl, rfl, rfl⟩
          first
          | (have := mg_lt_of (show (0 : Int) < 2147483648 by omega) (F := G) (G := F) (k := k) (n := n) (by omega) (fun j hj => hG j (by omega)) (fun j hj => hF j (by omega)) (fun j h1 h2 => (heq j (by omega) h2).symm) (by omega)
             have e : cmpZ (mg 2147483648 F n) (mg 2147483648 G n) = 1 := by unfold cmpZ; rw [if_pos this]
             rw [e]
             done)
          | (have := mg_lt_of (show (0 : Int) < 2147483648 by omega) (F := F) (G := G) (k := k) (n := n) (by omega) (fun j hj => hF j (by omega)) (fun j hj => hG j (by omega)) (fun j h1 h2 => heq j (by omega) h2) (by omega)
             have e : cmpZ (mg 2147483648 F n) (mg 2147483648 G n) = -1 := by unfold cmpZ; rw [if_neg (by omega), if_neg (by omega)]
             rw [e]
             done)
theorem t_compareSize (g : GX) (d : Nat) {w p L u q K : Nat} {z y : Int} {V : AH} {sz : Nat} (hW : WhV g V w z p L) (hU : WhV g V u y q K) : AMet g mX4_compareSize d [.ref w, .ref u] V sz (Ex (some (.int (iZ (cmpZ (z.natAbs : Int) (y.natAbs : Int))))) V sz 0 0) := by
  obtain ⟨n, F, hW, hmg, htop⟩ := hW
  obtain ⟨m, G, hU, hmu, htopu⟩ := hU
  obtain ⟨hw, hp, hwp, hn, h4, hL, hF⟩ := id hW
  obtain ⟨hu, hq, huq, hm, h4', hK, hG⟩ := id hU
  refine AMet.of rfl rfl (Nat.le_of_ble_eq_true rfl) ?_
  show AW g mX4_compareSize d 0 [(0, .ref w), (1, .ref u)] [] V sz _
  refine aw_aload_n dX4_compareSize_0 (by rfl) (Or.inr ⟨_, rfl⟩) ?_
  refine aw_get fX4_15 dX4_compareSize_1 (by assumption) (by rfl) ?_
  refine aw_aload_n dX4_compareSize_4 (by rfl) (Or.inr ⟨_, rfl⟩) ?_
  refine aw_get fX4_15 dX4_compareSize_5 (by assumption) (by rfl) ?_
  refine aw_icmp_eqZ (tgt := 28) dX4_compareSize_8 (by decide) (by omega) (by omega) (fun hc_8 => ?_) (fun hc_8 => ?_)
  · refine aw_aload_n dX4_compareSize_28 (by rfl) (Or.inr ⟨_, rfl⟩) ?_
    refine aw_get fX4_15 dX4_compareSize_29 (by assumption) (by rfl) ?_
    refine aw_iconstZ dX4_compareSize_32 ?_
    refine aw_isubZ dX4_compareSize_33 ?_
    refine aw_istore_n dX4_compareSize_34 (by decide) ?_
    obtain rfl : n = m := by omega
    have ih := cmp_loop g d hW hU n (by omega) (fun j h1 h2 => absurd h2 (by omega)) (sz := sz)
    rw [← hmg, ← hmu]
    refine aw_lv ?_ ih
    rfl
  · refine aw_aload_n dX4_compareSize_11 (by rfl) (Or.inr ⟨_, rfl⟩) ?_
    refine aw_get fX4_15 dX4_compareSize_12 (by assumption) (by rfl) ?_
    refine aw_aload_n dX4_compareSize_15 (by rfl) (Or.inr ⟨_, rfl⟩) ?_
    refine aw_get fX4_15 dX4_compareSize_16 (by assumption) (by rfl) ?_
    refine aw_icmp_leZ (tgt := 26) dX4_compareSize_19 (by decide) (by omega) (by omega) (fun hc_19 => ?_) (fun hc_19 => ?_)
    · refine aw_iconstZ dX4_compareSize_26 ?_
      refine aw_iret dX4_compareSize_27 rfl (by rfl) ?_
      refine ⟨?_, rfl, rfl, rfl, rfl⟩
      first
      | (have := mg_len_lt (show (1 : Int) < 2147483648 by omega) (F := G) (G := F) (fun j hj => hG j (by omega)) (fun j hj => hF j (by omega)) htop (show m < n by omega)
         have e : cmpZ (z.natAbs : Int) (y.natAbs : Int) = 1 := by unfold cmpZ; rw [if_pos (by omega)]
         rw [e]
         done)
      | (have := mg_len_lt (show (1 : Int) < 2147483648 by omega) (F := F) (G := G) (fun j hj => hF j (by omega)) (fun j hj => hG j (by omega)) htopu (show n < m by omega)
         have e : cmpZ (z.natAbs : Int) (y.natAbs : Int) = -1 := by unfold cmpZ; rw [if_neg (by omega), if_neg (by omega)]
         rw [e]
         done)
    · refine aw_iconstZ dX4_compareSize_22 ?_
      refine aw_goto (tgt := 27) dX4_compareSize_23 (by decide) ?_
      refine aw_iret dX4_compareSize_27 rfl (by rfl) ?_
      refine ⟨?_, rfl, rfl, rfl, rfl⟩
      first
      | (have := mg_len_lt (show (1 : Int) < 2147483648 by omega) (F := G) (G := F) (fun j hj => hG j (by omega)) (fun j hj => hF j (by omega)) htop (show m < n by omega)
         have e : cmpZ (z.natAbs : Int) (y.natAbs : Int) = 1 := by unfold cmpZ; rw [if_pos (by omega)]
         rw [e]
         done)
      | (have := mg_len_lt (show (1 : Int) < 2147483648 by omega) (F := F) (G := G) (fun j hj => hF j (by omega)) (fun j hj => hG j (by omega)) htopu (show n < m by omega)
         have e : cmpZ (z.natAbs : Int) (y.natAbs : Int) = -1 := by unfold cmpZ; rw [if_neg (by omega), if_neg (by omega)]
         rw [e]
         done)
abbrev mX4_copy : MI := (yX4_copy, cX4_copy, 3, none, noX)
theorem dX4_copy_0 : decode cX4_copy 0 = .ok (.aload_n 0, 1) := by decide +kernel
theorem dX4_copy_1 : decode cX4_copy 1 = .ok (.aload_n 1, 1) := by decide +kernel
theorem dX4_copy_2 : decode cX4_copy 2 = .ok (.getfield 15, 3) := by decide +kernel
theorem dX4_copy_5 : decode cX4_copy 5 = .ok (.invokevirtual 36, 3) := by decide +kernel
theorem dX4_copy_8 : decode cX4_copy 8 = .ok (.iconst 0, 1) := by decide +kernel
theorem dX4_copy_9 : decode cX4_copy 9 = .ok (.istore_n 2, 1) := by decide +kernel
theorem dX4_copy_10 : decode cX4_copy 10 = .ok (.iload_n 2, 1) := by decide +kernel
theorem dX4_copy_11 : decode cX4_copy 11 = .ok (.aload_n 1, 1) := by decide +kernel
theorem dX4_copy_12 : decode cX4_copy 12 = .ok (.getfield 15, 3) := by decide +kernel
theorem dX4_copy_15 : decode cX4_copy 15 = .ok (.if_icmp .ge 21, 3) := by decide +kernel
theorem dX4_copy_18 : decode cX4_copy 18 = .ok (.aload_n 0, 1) := by decide +kernel
theorem dX4_copy_19 : decode cX4_copy 19 = .ok (.getfield 18, 3) := by decide +kernel
theorem dX4_copy_22 : decode cX4_copy 22 = .ok (.iload_n 2, 1) := by decide +kernel
theorem dX4_copy_23 : decode cX4_copy 23 = .ok (.aload_n 1, 1) := by decide +kernel
theorem dX4_copy_24 : decode cX4_copy 24 = .ok (.getfield 18, 3) := by decide +kernel
theorem dX4_copy_27 : decode cX4_copy 27 = .ok (.iload_n 2, 1) := by decide +kernel
theorem dX4_copy_28 : decode cX4_copy 28 = .ok (.iaload, 1) := by decide +kernel
theorem dX4_copy_29 : decode cX4_copy 29 = .ok (.iastore, 1) := by decide +kernel
theorem dX4_copy_30 : decode cX4_copy 30 = .ok (.iinc 2 1, 3) := by decide +kernel
theorem dX4_copy_33 : decode cX4_copy 33 = .ok (.goto (-23), 3) := by decide +kernel
theorem dX4_copy_36 : decode cX4_copy 36 = .ok (.aload_n 0, 1) := by decide +kernel
theorem dX4_copy_37 : decode cX4_copy 37 = .ok (.aload_n 1, 1) := by decide +kernel
theorem dX4_copy_38 : decode cX4_copy 38 = .ok (.getfield 15, 3) := by decide +kernel
theorem dX4_copy_41 : decode cX4_copy 41 = .ok (.putfield 15, 3) := by decide +kernel
theorem dX4_copy_44 : decode cX4_copy 44 = .ok (.aload_n 0, 1) := by decide +kernel
theorem dX4_copy_45 : decode cX4_copy 45 = .ok (.aload_n 1, 1) := by decide +kernel
theorem dX4_copy_46 : decode cX4_copy 46 = .ok (.getfield 9, 3) := by decide +kernel
theorem dX4_copy_49 : decode cX4_copy 49 = .ok (.putfield 9, 3) := by decide +kernel
theorem dX4_copy_52 : decode cX4_copy 52 = .ok (.return_, 1) := by decide +kernel
theorem copy_loop (g : GX) (d : Nat) {V0 : AH} {sz0 p0 : Nat} {w p L u q K n m : Nat} {G : Nat → Int} {s t y : Int} (hsg : t = y.sign) (hmg : mg 2147483648 G m = (y.natAbs : Int)) (htop : m = 0 ∨ G (m - 1) ≠ 0) (hwu : w ≠ u) (hwq : w ≠ q) (hpu : u ≠ p) (hpq : q ≠ p) (hml : m ≤ L) {L0 mc ms : Nat} : ∀ (j k : Nat), k + j = m → ∀ {V : AH} {F : Nat → Int} {sz : Nat}, Whl g V w s n p L F → Whl g V u t m q K G → (∀ i, i < k → F i = G i) → Fr V0 sz0 V w p0 → DL V sz → (p = w ∨ p = p0 ∨ sz0 ≤ p) → L0 + mc ≤ L → L0 * L0 + ms ≤ L * L → AW g mX4_copy (d + 3) 10 [(2, .int (iZ k)), (0, .ref w), (1, .ref u)] [] V sz (fun r V' sz' dc ds => WPost g V0 sz0 w p0 L0 y r V' sz' (mc + dc) (ms + ds))
  | 0, k, hj, V, F, sz, hW, hU, heq, hfr, hD, hp0, hc, hs => by
    obtain rfl : m = k := by omega
    obtain ⟨hw, hp, hwp, hn, h4, hL, hF⟩ := id hW
    obtain ⟨hu, hq, huq, hm', h4', hK, hG⟩ := id hU
    refine aw_iload_n dX4_copy_10 (by rfl) ?_
    refine aw_aload_n dX4_copy_11 (by rfl) (Or.inr ⟨_, rfl⟩) ?_
    refine aw_get fX4_15 dX4_copy_12 (by assumption) (by rfl) ?_
    refine aw_icmp_geZ (tgt := 36) dX4_copy_15 (by decide) (by omega) (by omega) (fun hc_15 => ?_) (fun hc_15 => ?_)
    · refine aw_aload_n dX4_copy_36 (by rfl) (Or.inr ⟨_, rfl⟩) ?_
      refine aw_aload_n dX4_copy_37 (by rfl) (Or.inr ⟨_, rfl⟩) ?_
      refine aw_get fX4_15 dX4_copy_38 (by assumption) (by rfl) ?_
      refine aw_put fX4_15 dX4_copy_41 (by assumption) (by rfl) (by rfl) (Nat.le_of_ble_eq_true rfl) ?_
      have hu1 : (AHu V w (whO s m p)) u = some (whO t m q) := by rw [AHu_ne hwu.symm]; exact hu
      have hw1 : (AHu V w (whO s m p)) w = some (whO s m p) := AHu_self _ _ _
      show AW g mX4_copy (d + 3) _ _ _ (AHu V w (whO s m p)) _ _
      refine aw_aload_n dX4_copy_44 (by rfl) (Or.inr ⟨_, rfl⟩) ?_
      refine aw_aload_n dX4_copy_45 (by rfl) (Or.inr ⟨_, rfl⟩) ?_
      refine aw_get fX4_9 dX4_copy_46 (by assumption) (by rfl) ?_
      refine aw_put fX4_9 dX4_copy_49 (by assumption) (by rfl) (by rfl) (Nat.le_of_ble_eq_true rfl) ?_
      refine aw_ret dX4_copy_52 rfl ?_
      have hE : AHu (AHu V w (whO s m p)) w (whO t m p) = AHu V w (whO t m p) := AHu_AHu _ _ _ _
      have hW2 : Whl g (AHu V w (whO t m p)) w t m p L F := hW.set (by omega)
      refine ⟨rfl, p, L, ⟨m, F, ?_, ?_, ?_⟩, by omega, by omega, hp0.elim (fun h => absurd h hwp.symm) id, ?_, ?_⟩
      · show Whl g (AHu (AHu V w (whO s m p)) w (whO t m p)) w y.sign m p L F
        rw [hE, ← hsg]; exact hW2
      · rw [mg_congr (fun i hi => heq i hi)]; exact hmg
      · rcases htop with h | h
        · exact Or.inl h
        · rcases Nat.eq_zero_or_pos m with h0 | h0
          · exact Or.inl h0
          · rw [heq (m - 1) (by omega)]; exact Or.inr h
      · show Fr V0 sz0 (AHu (AHu V w (whO s m p)) w (whO t m p)) w p0
        rw [hE]
        exact hfr.upd (Or.inl rfl)
      · show DL (AHu (AHu V w (whO s m p)) w (whO t m p)) sz
        rw [hE]
        exact hD.upd (hD.lt hw)
    · exact absurd hc_15 (by omega)
  | j + 1, k, hj, V, F, sz, hW, hU, heq, hfr, hD, hp0, hc, hs => by
    obtain ⟨hw, hp, hwp, hn, h4, hL, hF⟩ := id hW
    obtain ⟨hu, hq, huq, hm', h4', hK, hG⟩ := id hU
    refine aw_iload_n dX4_copy_10 (by rfl) ?_
    refine aw_aload_n dX4_copy_11 (by rfl) (Or.inr ⟨_, rfl⟩) ?_
    refine aw_get fX4_15 dX4_copy_12 (by assumption) (by rfl) ?_
    refine aw_icmp_geZ (tgt := 36) dX4_copy_15 (by decide) (by omega) (by omega) (fun hc_15 => ?_) (fun hc_15 => ?_)
    · exact absurd hc_15 (by omega)
    · have hGk := hG k (by omega)
      refine aw_aload_n dX4_copy_18 (by rfl) (Or.inr ⟨_, rfl⟩) ?_
      refine aw_get fX4_18 dX4_copy_19 (by assumption) (by rfl) ?_
      refine aw_iload_n dX4_copy_22 (by rfl) ?_
      refine aw_aload_n dX4_copy_23 (by rfl) (Or.inr ⟨_, rfl⟩) ?_
      refine aw_get fX4_18 dX4_copy_24 (by assumption) (by rfl) ?_
      refine aw_iload_n dX4_copy_27 (by rfl) ?_
      refine aw_ialdZ (k) dX4_copy_28 (by assumption) (by omega) (by omega) (by omega) ?_
      refine aw_iastZ (k) dX4_copy_29 hp (by omega) (by omega) (by omega) ?_
      refine aw_iincZ dX4_copy_30 (by rfl) (by decide) ?_
      refine aw_goto (tgt := 10) dX4_copy_33 (by decide) ?_
      have hW2 : Whl g (AHu V p (aIz g L (upF F k (G k)))) w s n p L (upF F k (G k)) := hW.arr (upF_lim hF (hG k (by omega)))
      have hU2 : Whl g (AHu V p (aIz g L (upF F k (G k)))) u t m q K G := hU.kept (AHu_ne hpu) (AHu_ne hpq)
      have ih := copy_loop g d (V0 := V0) (sz0 := sz0) (p0 := p0) hsg hmg htop hwu hwq hpu hpq hml j (k + 1) (by omega) (V := AHu V p (aIz g L (upF F k (G k)))) (F := upF F k (G k)) hW2 hU2 (fun i hi => by
        by_cases hik : i = k
        · subst hik; rw [upF_self]
        · rw [upF_ne F _ hik]; exact heq i (by omega)) (hfr.upd hp0) (hD.upd (hD.lt hp)) hp0 hc hs (sz := sz)
      exact aw_lv (by rw [show ((k : Int) + 1) = ((k + 1 : Nat) : Int) by omega]; rfl) ih
theorem t_copy (g : GX) (d : Nat) {w p L u q K : Nat} {n : Nat} {F : Nat → Int} {s y : Int} {V : AH} {sz : Nat} (hW : Whl g V w s n p L F) (hU : WhV g V u y q K) (hD : DL V sz) (hwu : w ≠ u) (hpq : p ≠ q) (hwq : w ≠ q) (hpu : p ≠ u) (hm : (y.natAbs : Int) < 2147483648 ^ 156) : AMet g mX4_copy (d + 3) [.ref w, .ref u] V sz (WPost g V sz w p L y) := by
  obtain ⟨m, G, hU, hmu, htopu⟩ := hU
  obtain ⟨hw, hp, hwp, hn, h4, hL, hF⟩ := id hW
  obtain ⟨hu, hq, huq, hm1, h4', hK, hG⟩ := id hU
  have hm2 : m ≤ 156 := by
    rcases htopu with h | h
    · omega
    · rcases Nat.eq_zero_or_pos m with h0 | h0
      · omega
      · obtain ⟨k, rfl⟩ : ∃ k, m = k + 1 := ⟨m - 1, by omega⟩
        have h1 := mg_top (show (0 : Int) < 2147483648 by omega) (F := G) (n := k) (fun j hj => hG j (by omega)) (by simpa using h)
        have h2 := pw_lt_inv (show (1 : Int) ≤ 2147483648 by omega) (show (2147483648 : Int) ^ k < 2147483648 ^ 156 by omega)
        omega
  refine AMet.of rfl rfl (Nat.le_of_ble_eq_true rfl) ?_
  show AW g mX4_copy (d + 3) 0 [(0, .ref w), (1, .ref u)] [] V sz _
  refine aw_aload_n dX4_copy_0 (by rfl) (Or.inr ⟨_, rfl⟩) ?_
  refine aw_aload_n dX4_copy_1 (by rfl) (Or.inr ⟨_, rfl⟩) ?_
  refine aw_get fX4_15 dX4_copy_2 (by assumption) (by rfl) ?_
  refine aw_callv vX4_36 dX4_copy_5 (by assumption) (t_makeRoom g d hW hD (len := m) (by omega)) (by rfl) (by rfl) (by omega) (Nat.le_of_ble_eq_true rfl) ?_
  rintro r V1 sz1 mc ms ⟨rfl, p1, L1, F1, hW1, hl1, hc1, hs1, hF1, hp1, hfr1, hD1⟩ hdm
  have hus := hD.lt hu
  have hqs := hD.lt hq
  have hps := hD.lt hp
  have hws := hD.lt hw
  have hU1 : Whl g V1 u y.sign m q K G := hU.kept (hfr1 u hus hwu.symm hpu.symm) (hfr1 q hqs hwq.symm hpq.symm)
  have ih := copy_loop g d (V0 := V) (sz0 := sz) (p0 := p) (y := y) rfl hmu htopu hwu hwq (p := p1) (L := L1) (by omega) (by omega) hl1 m 0 (by omega) hW1 hU1 (fun i hi => absurd hi (by omega)) hfr1 hD1 (by omega) hc1 hs1 (sz := sz1)
  refine AW.mono (fun r V' sz' dc ds h => h) ?_
  refine aw_iconstZ dX4_copy_8 ?_
  refine aw_istore_n dX4_copy_9 (by decide) ?_
  exact aw_lv (by rfl) ih

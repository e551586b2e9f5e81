/-! ===== Whole: word, bitLength ===== -/
theorem iZ_mod (a t : Int) : iZ (a + 4294967296 * t) = iZ a := by
  rw [← iZ_add, ← iZ_mul, show iZ 4294967296 = 0 by decide]
  rw [show (0 : Int32) * iZ t = 0 from Int32.zero_mul, Int32.add_zero]
/-- two limbs hold all bits of a word -/
theorem mg_word {F : Nat → Int} {n q s : Nat} (hF : ∀ k, k < n → 0 ≤ F k ∧ F k < 2147483648) (hs : s ≤ 30) : ∃ t : Int, mg 2147483648 F n / (2147483648 ^ q * 2 ^ s) = (pad F n q + pad F n (q + 1) * 2147483648) / 2 ^ s + 4294967296 * t := by
  have hp : ∀ k, 0 ≤ pad F n k ∧ pad F n k < 2147483648 := fun k => by
    unfold pad
    split
    · exact hF k (by assumption)
    · omega
  have e1 : mg 2147483648 F n = mg 2147483648 (pad F n) (q + (2 + n)) := (mg_pad (by omega)).symm
  rw [e1, mg_split, mg_split]
  have hX := mg_bd (show (0 : Int) < 2147483648 by omega) (F := pad F n) (n := q) (fun k _ => hp k)
  have e2 : mg 2147483648 (wn (pad F n) q) 2 = pad F n q + pad F n (q + 1) * 2147483648 := by
    simp only [mg, wn, Int.pow_zero, Int.pow_one, Int.mul_one, Nat.add_zero]
    omega
  rw [e2]
  generalize mg 2147483648 (wn (wn (pad F n) q) 2) n = R
  generalize mg 2147483648 (pad F n) q = X at hX ⊢
  generalize hY : pad F n q + pad F n (q + 1) * 2147483648 = Y
  have hBq : (0 : Int) < 2147483648 ^ q := pw_pos (by omega) q
  rw [← Int.ediv_ediv_of_nonneg (by omega), Int.add_mul_ediv_right _ _ (by omega), Int.ediv_eq_zero_of_lt hX.1 hX.2, Int.zero_add]
  obtain ⟨u, hu⟩ : ∃ u, s + u = 30 := ⟨30 - s, by omega⟩
  have hBB : (2147483648 : Int) ^ 2 = 2 ^ s * (4294967296 * 2 ^ u) := by
    have h1 : (2 : Int) ^ 30 = 2 ^ s * 2 ^ u := by rw [← Int.pow_add, hu]
    have h2 : (2147483648 : Int) ^ 2 = 2 ^ 30 * 4294967296 := by decide
    rw [h2, h1, Int.mul_assoc, Int.mul_comm (2 ^ u) 4294967296]
  have hs0 : (2 : Int) ^ s ≠ 0 := by have := pw_pos (show (0 : Int) < 2 by omega) s; omega
  refine ⟨R * 2 ^ u, ?_⟩
  rw [hBB, show R * (2 ^ s * (4294967296 * 2 ^ u)) = (4294967296 * (R * 2 ^ u)) * 2 ^ s by
    rw [Int.mul_comm (2 ^ s), ← Int.mul_assoc, ← Int.mul_assoc, ← Int.mul_assoc, Int.mul_comm R], Int.add_mul_ediv_right _ _ hs0]
theorem pw_qs {q s k : Nat} (h : 32 * k = 31 * q + s) : (2147483648 : Int) ^ q * 2 ^ s = 2 ^ (32 * k) := by
  rw [show (2147483648 : Int) = 2 ^ 31 by decide, ← Int.pow_mul, ← Int.pow_add, h]
abbrev mX4_word : MI := (yX4_word, cX4_word, 8, (some FieldType.int), noX)
theorem dX4_word_0 : decode cX4_word 0 = .ok (.ldc2_w 48, 3) := by decide +kernel
theorem dX4_word_3 : decode cX4_word 3 = .ok (.iload_n 1, 1) := by decide +kernel
theorem dX4_word_4 : decode cX4_word 4 = .ok (.i2l, 1) := by decide +kernel
theorem dX4_word_5 : decode cX4_word 5 = .ok (.lmul, 1) := by decide +kernel
theorem dX4_word_6 : decode cX4_word 6 = .ok (.lstore_n 2, 1) := by decide +kernel
theorem dX4_word_7 : decode cX4_word 7 = .ok (.aload_n 0, 1) := by decide +kernel
theorem dX4_word_8 : decode cX4_word 8 = .ok (.lload_n 2, 1) := by decide +kernel
theorem dX4_word_9 : decode cX4_word 9 = .ok (.ldc2_w 50, 3) := by decide +kernel
theorem dX4_word_12 : decode cX4_word 12 = .ok (.ldiv, 1) := by decide +kernel
theorem dX4_word_13 : decode cX4_word 13 = .ok (.invokevirtual 52, 3) := by decide +kernel
theorem dX4_word_16 : decode cX4_word 16 = .ok (.i2l, 1) := by decide +kernel
theorem dX4_word_17 : decode cX4_word 17 = .ok (.lstore 4, 2) := by decide +kernel
theorem dX4_word_19 : decode cX4_word 19 = .ok (.aload_n 0, 1) := by decide +kernel
theorem dX4_word_20 : decode cX4_word 20 = .ok (.lload_n 2, 1) := by decide +kernel
theorem dX4_word_21 : decode cX4_word 21 = .ok (.ldc2_w 50, 3) := by decide +kernel
theorem dX4_word_24 : decode cX4_word 24 = .ok (.ldiv, 1) := by decide +kernel
theorem dX4_word_25 : decode cX4_word 25 = .ok (.lconst 1, 1) := by decide +kernel
theorem dX4_word_26 : decode cX4_word 26 = .ok (.ladd, 1) := by decide +kernel
theorem dX4_word_27 : decode cX4_word 27 = .ok (.invokevirtual 52, 3) := by decide +kernel
theorem dX4_word_30 : decode cX4_word 30 = .ok (.i2l, 1) := by decide +kernel
theorem dX4_word_31 : decode cX4_word 31 = .ok (.lstore 6, 2) := by decide +kernel
theorem dX4_word_33 : decode cX4_word 33 = .ok (.lload 6, 2) := by decide +kernel
theorem dX4_word_35 : decode cX4_word 35 = .ok (.bipush 31, 2) := by decide +kernel
theorem dX4_word_37 : decode cX4_word 37 = .ok (.lshl, 1) := by decide +kernel
theorem dX4_word_38 : decode cX4_word 38 = .ok (.lload 4, 2) := by decide +kernel
theorem dX4_word_40 : decode cX4_word 40 = .ok (.ladd, 1) := by decide +kernel
theorem dX4_word_41 : decode cX4_word 41 = .ok (.lload_n 2, 1) := by decide +kernel
theorem dX4_word_42 : decode cX4_word 42 = .ok (.ldc2_w 50, 3) := by decide +kernel
theorem dX4_word_45 : decode cX4_word 45 = .ok (.lrem, 1) := by decide +kernel
theorem dX4_word_46 : decode cX4_word 46 = .ok (.l2i, 1) := by decide +kernel
theorem dX4_word_47 : decode cX4_word 47 = .ok (.lushr, 1) := by decide +kernel
theorem dX4_word_48 : decode cX4_word 48 = .ok (.l2i, 1) := by decide +kernel
theorem dX4_word_49 : decode cX4_word 49 = .ok (.ireturn, 1) := by decide +kernel
theorem t_word (g : GX) (d : Nat) {V : AH} {sz w p L k : Nat} {z : Int} (h : WhV g V w z p L) (hk : k < 2147483648) : AMet g mX4_word (d + 1) [.ref w, .int (iZ k)] V sz (Ex (some (.int (iZ ((z.natAbs : Int) / 2 ^ (32 * k))))) V sz 0 0) := by
  obtain ⟨n, F, hW, hm, ht⟩ := h
  have hn := hW.2.2.2.1
  have hFl := hW.2.2.2.2.2.2
  have hp : ∀ k, 0 ≤ pad F n k ∧ pad F n k < 2147483648 := fun k => by
    unfold pad
    split
    · exact hFl k (by omega)
    · omega
  have e31 : (2 : Int) ^ 31 = 2147483648 := by decide
  obtain ⟨q, s, hqs, hs⟩ : ∃ q s, 32 * k = 31 * q + s ∧ s ≤ 30 := ⟨32 * k / 31, 32 * k % 31, by omega, by omega⟩
  have htd : (32 * (k : Int)).tdiv 31 = (q : Int) := by rw [Int.tdiv_eq_ediv_of_nonneg (by omega)]; omega
  have htm : (32 * (k : Int)).tmod 31 = (s : Int) := by rw [Int.tmod_eq_emod_of_nonneg (by omega)]; omega
  refine AMet.of rfl rfl (Nat.le_of_ble_eq_true rfl) ?_
  show AW g mX4_word (d + 1) 0 [(0, .ref w), (1, .int (iZ k))] [] V sz _
  refine aw_ldc2Z (z := 32) qX4_48 dX4_word_0 (by decide) ?_
  refine aw_iload_n dX4_word_3 (by rfl) ?_
  refine aw_i2lZ dX4_word_4 (by omega) ?_
  refine aw_lmulZ dX4_word_5 ?_
  refine aw_lstore_n dX4_word_6 (by decide) ?_
  refine aw_aload_n dX4_word_7 (by rfl) (Or.inr ⟨_, rfl⟩) ?_
  refine aw_lload_n dX4_word_8 (by rfl) ?_
  refine aw_ldc2Z (z := 31) qX4_50 dX4_word_9 (by decide) ?_
  refine aw_ldivZ dX4_word_12 (by omega) (by omega) (by omega) (by omega) ?_
  refine aw_topl (y := (q : Int)) htd ?_
  refine aw_callv vX4_52 dX4_word_13 hW.1 (t_limbAt g d hW (k := (q : Int)) (by omega)) (by rfl) (by rfl) (by omega) (Nat.le_of_ble_eq_true rfl) ?_
  rintro _ _ _ _ _ ⟨rfl, rfl, rfl, rfl, rfl⟩ -
  refine q0 ?_
  rw [show (if (q : Int) < (n : Int) then F (q : Int).toNat else 0) = pad F n q by unfold pad; rw [Int.toNat_natCast]; split <;> split <;> first | rfl | omega]
  refine aw_i2lZ dX4_word_16 (by have := hp q; omega) ?_
  refine aw_lstore dX4_word_17 (by decide) ?_
  refine aw_aload_n dX4_word_19 (by rfl) (Or.inr ⟨_, rfl⟩) ?_
  refine aw_lload_n dX4_word_20 (by rfl) ?_
  refine aw_ldc2Z (z := 31) qX4_50 dX4_word_21 (by decide) ?_
  refine aw_ldivZ dX4_word_24 (by omega) (by omega) (by omega) (by omega) ?_
  refine aw_topl (y := (q : Int)) htd ?_
  refine aw_lconstZ (z := 1) dX4_word_25 (by decide) ?_
  refine aw_laddZ dX4_word_26 ?_
  refine aw_topl (y := ((q + 1 : Nat) : Int)) (by omega) ?_
  refine aw_callv vX4_52 dX4_word_27 hW.1 (t_limbAt g d hW (k := ((q + 1 : Nat) : Int)) (by omega)) (by rfl) (by rfl) (by omega) (Nat.le_of_ble_eq_true rfl) ?_
  rintro _ _ _ _ _ ⟨rfl, rfl, rfl, rfl, rfl⟩ -
  refine q0 ?_
  rw [show (if ((q + 1 : Nat) : Int) < (n : Int) then F ((q + 1 : Nat) : Int).toNat else 0) = pad F n (q + 1) by unfold pad; rw [Int.toNat_natCast]; split <;> split <;> first | rfl | omega]
  refine aw_i2lZ dX4_word_30 (by have := hp (q + 1); omega) ?_
  refine aw_lstore dX4_word_31 (by decide) ?_
  refine aw_lload dX4_word_33 (by rfl) ?_
  refine aw_bipushZ dX4_word_35 (by decide) ?_
  refine aw_lshlZ 31 dX4_word_37 (by rfl) (by decide) (hp (q + 1)).1 (by have := hp (q + 1); rw [e31]; omega) ?_
  rw [e31]
  refine aw_lload dX4_word_38 (by rfl) ?_
  refine aw_laddZ dX4_word_40 ?_
  refine aw_lload_n dX4_word_41 (by rfl) ?_
  refine aw_ldc2Z (z := 31) qX4_50 dX4_word_42 (by decide) ?_
  refine aw_lremZ dX4_word_45 (by omega) (by omega) (by omega) (by omega) ?_
  refine aw_topl (y := (s : Int)) htm ?_
  refine aw_l2iZ dX4_word_46 ?_
  refine aw_lushrZ s dX4_word_47 (by rfl) (by omega) (by have := hp (q + 1); have := hp q; omega) (by have := hp (q + 1); have := hp q; omega) ?_
  refine aw_l2iZ dX4_word_48 ?_
  refine aw_iret dX4_word_49 rfl (by rfl) ?_
  obtain ⟨t, ht⟩ := mg_word (n := n) (F := F) (q := q) (s := s) (fun k hk => hFl k (by omega)) (by omega)
  rw [hm, pw_qs hqs] at ht
  refine ⟨?_, rfl, rfl, rfl, rfl⟩
  rw [ht, iZ_mod, Int.add_comm (pad F n q)]
/-- how many bits a number has without its sign -/
def BL (z : Int) (b : Nat) : Prop := (z = 0 ∧ b = 0) ∨ (z ≠ 0 ∧ 1 ≤ b ∧ 2 ^ (b - 1) ≤ ab z ∧ ab z < 2 ^ b)
theorem BL.uniq {z : Int} {b c : Nat} (h : BL z b) (k : BL z c) : b = c := by
  rcases h with ⟨h1, h2⟩ | ⟨h1, h2, h3, h4⟩ <;> rcases k with ⟨k1, k2⟩ | ⟨k1, k2, k3, k4⟩
  · omega
  · exact absurd h1 k1
  · exact absurd k1 h1
  · have e1 := pw_lt_inv (show (1 : Int) ≤ 2 by omega) (Int.lt_of_le_of_lt h3 k4)
    have e2 := pw_lt_inv (show (1 : Int) ≤ 2 by omega) (Int.lt_of_le_of_lt k3 h4)
    omega
abbrev mX4_bitLength : MI := (yX4_bitLength, cX4_bitLength, 1, (some FieldType.int), noX)
theorem dX4_bitLength_0 : decode cX4_bitLength 0 = .ok (.aload_n 0, 1) := by decide +kernel
theorem dX4_bitLength_1 : decode cX4_bitLength 1 = .ok (.getfield 15, 3) := by decide +kernel
theorem dX4_bitLength_4 : decode cX4_bitLength 4 = .ok (.ifCond .ne 5, 3) := by decide +kernel
theorem dX4_bitLength_7 : decode cX4_bitLength 7 = .ok (.iconst 0, 1) := by decide +kernel
theorem dX4_bitLength_8 : decode cX4_bitLength 8 = .ok (.ireturn, 1) := by decide +kernel
theorem dX4_bitLength_9 : decode cX4_bitLength 9 = .ok (.aload_n 0, 1) := by decide +kernel
theorem dX4_bitLength_10 : decode cX4_bitLength 10 = .ok (.getfield 15, 3) := by decide +kernel
theorem dX4_bitLength_13 : decode cX4_bitLength 13 = .ok (.bipush 31, 2) := by decide +kernel
theorem dX4_bitLength_15 : decode cX4_bitLength 15 = .ok (.imul, 1) := by decide +kernel
theorem dX4_bitLength_16 : decode cX4_bitLength 16 = .ok (.aload_n 0, 1) := by decide +kernel
theorem dX4_bitLength_17 : decode cX4_bitLength 17 = .ok (.getfield 18, 3) := by decide +kernel
theorem dX4_bitLength_20 : decode cX4_bitLength 20 = .ok (.aload_n 0, 1) := by decide +kernel
theorem dX4_bitLength_21 : decode cX4_bitLength 21 = .ok (.getfield 15, 3) := by decide +kernel
theorem dX4_bitLength_24 : decode cX4_bitLength 24 = .ok (.iconst 1, 1) := by decide +kernel
theorem dX4_bitLength_25 : decode cX4_bitLength 25 = .ok (.isub, 1) := by decide +kernel
theorem dX4_bitLength_26 : decode cX4_bitLength 26 = .ok (.iaload, 1) := by decide +kernel
theorem dX4_bitLength_27 : decode cX4_bitLength 27 = .ok (.invokestatic 55, 3) := by decide +kernel
theorem dX4_bitLength_30 : decode cX4_bitLength 30 = .ok (.iconst 1, 1) := by decide +kernel
theorem dX4_bitLength_31 : decode cX4_bitLength 31 = .ok (.isub, 1) := by decide +kernel
theorem dX4_bitLength_32 : decode cX4_bitLength 32 = .ok (.isub, 1) := by decide +kernel
theorem dX4_bitLength_33 : decode cX4_bitLength 33 = .ok (.ireturn, 1) := by decide +kernel
theorem t_bitLength (g : GX) (d : Nat) {V : AH} {sz w p L : Nat} {z : Int} (h : WhV g V w z p L) : AMet g mX4_bitLength (d + 1) [.ref w] V sz (fun r V' sz' mc ms => (∃ b : Nat, BL z b ∧ b ≤ 5000 ∧ some (.int (iZ b)) = r) ∧ V = V' ∧ sz = sz' ∧ 0 = mc ∧ 0 = ms) := by
  obtain ⟨n, F, hW, hm, ht⟩ := h
  obtain ⟨hwo, hpo, -, hn, -, hL, hFl⟩ := id hW
  have hz := mg_zero (show (0 : Int) < 2147483648 by omega) (F := F) (n := n) (fun k hk => hFl k (by omega)) ht
  refine AMet.of rfl rfl (Nat.le_of_ble_eq_true rfl) ?_
  show AW g mX4_bitLength (d + 1) 0 [(0, .ref w)] [] V sz _
  refine aw_aload_n dX4_bitLength_0 (by rfl) (Or.inr ⟨_, rfl⟩) ?_
  refine aw_get fX4_15 dX4_bitLength_1 (by assumption) (by rfl) ?_
  refine aw_if_neZ (tgt := 9) dX4_bitLength_4 (by decide) (by omega) (fun hc_4 => ?_) (fun hc_4 => ?_)
  · have htop : 0 < F (n - 1) := by
      have := hFl (n - 1) (by omega)
      rcases ht with h1 | h1
      · omega
      · omega
    refine aw_aload_n dX4_bitLength_9 (by rfl) (Or.inr ⟨_, rfl⟩) ?_
    refine aw_get fX4_15 dX4_bitLength_10 (by assumption) (by rfl) ?_
    refine aw_bipushZ dX4_bitLength_13 (by decide) ?_
    refine aw_imulZ dX4_bitLength_15 ?_
    refine aw_aload_n dX4_bitLength_16 (by rfl) (Or.inr ⟨_, rfl⟩) ?_
    refine aw_get fX4_18 dX4_bitLength_17 (by assumption) (by rfl) ?_
    refine aw_aload_n dX4_bitLength_20 (by rfl) (Or.inr ⟨_, rfl⟩) ?_
    refine aw_get fX4_15 dX4_bitLength_21 (by assumption) (by rfl) ?_
    refine aw_iconstZ dX4_bitLength_24 ?_
    refine aw_isubZ dX4_bitLength_25 ?_
    refine aw_ialdZ (n - 1) dX4_bitLength_26 (by assumption) (by omega) (by omega) (by omega) ?_
    refine aw_calls sX4_55 dX4_bitLength_27 (t_nlz g d htop (hFl (n - 1) (by omega)).2) (by rfl) (by rfl) (by omega) (Nat.le_of_ble_eq_true rfl) ?_
    rintro _ _ _ _ _ ⟨⟨k, hk1, hk2, rfl, hk3, hk4⟩, rfl, rfl, rfl, rfl⟩ -
    simp only [Nat.zero_add]
    refine aw_iconstZ dX4_bitLength_30 ?_
    refine aw_isubZ dX4_bitLength_31 ?_
    refine aw_isubZ dX4_bitLength_32 ?_
    refine aw_iret dX4_bitLength_33 rfl (by rfl) ?_
    obtain ⟨m, rfl⟩ : ∃ m, n = m + 1 := ⟨n - 1, by omega⟩
    rw [show m + 1 - 1 = m by omega] at *
    refine ⟨⟨31 * m + (32 - k), Or.inr ⟨fun q => by have h1 := hz.mp (by rw [hm, q]; rfl); omega, by omega, ?_, ?_⟩, by omega, ?_⟩, rfl, rfl, rfl, rfl⟩
    · have e : (2 : Int) ^ (31 * m + (32 - k) - 1) = 2 ^ (31 - k) * 2147483648 ^ m := by
        rw [show (2147483648 : Int) = 2 ^ 31 by decide, ← Int.pow_mul, ← Int.pow_add]; congr 1; omega
      rw [e]
      show _ ≤ (z.natAbs : Int)
      rw [← hm]
      simp only [mg]
      have h1 := (mg_bd (show (0 : Int) < 2147483648 by omega) (F := F) (n := m) (fun k hk => hFl k (by omega))).1
      have h2 : 2 ^ (31 - k) * (2147483648 : Int) ^ m ≤ F m * 2147483648 ^ m := Int.mul_le_mul_of_nonneg_right hk3 (Int.pow_nonneg (by omega))
      omega
    · have e : (2 : Int) ^ (31 * m + (32 - k)) = 2 ^ (32 - k) * 2147483648 ^ m := by
        rw [show (2147483648 : Int) = 2 ^ 31 by decide, ← Int.pow_mul, ← Int.pow_add]; congr 1; omega
      rw [e]
      show (z.natAbs : Int) < _
      rw [← hm]
      simp only [mg]
      have h1 := (mg_bd (show (0 : Int) < 2147483648 by omega) (F := F) (n := m) (fun k hk => hFl k (by omega))).2
      have h2 : (F m + 1) * (2147483648 : Int) ^ m ≤ 2 ^ (32 - k) * 2147483648 ^ m := Int.mul_le_mul_of_nonneg_right (by omega) (Int.pow_nonneg (by omega))
      rw [Int.add_mul, Int.one_mul] at h2
      omega
    · congr 3
      omega
  · refine aw_iconstZ dX4_bitLength_7 ?_
    refine aw_iret dX4_bitLength_8 rfl (by rfl) ?_
    exact ⟨⟨0, Or.inl ⟨by have := hz.mpr (by omega); omega, rfl⟩, by omega, rfl⟩, rfl, rfl, rfl, rfl⟩

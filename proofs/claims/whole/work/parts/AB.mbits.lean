/-! ===== ints by bits; the reference: bitAt, bits, length ===== -/
theorem iZ_and1 (x : Int) : iZ x &&& iZ 1 = iZ (x % 2) := by
  apply Int32.toBitVec_inj.1
  rw [Int32.toBitVec_and]
  apply BitVec.eq_of_toNat_eq
  have hm0 := Int.emod_nonneg x (show (2 : Int) ≠ 0 by omega)
  have hm1 := Int.emod_lt_of_pos x (show (0 : Int) < 2 by omega)
  rw [BitVec.toNat_and, iZ_nn 1 (by omega) (by omega), iZ_nn (x % 2) hm0 (by omega)]
  rw [show ((1 : Int)).toNat = 2 ^ 1 - 1 from rfl, Nat.and_two_pow_sub_one_eq_mod]
  show (BitVec.ofInt 32 x).toNat % 2 ^ 1 = _
  rw [BitVec.toNat_ofInt]
  have hn : (0 : Int) ≤ x % ((2 ^ 32 : Nat) : Int) := Int.emod_nonneg _ (by decide)
  apply Int.ofNat_inj.mp
  rw [Int.natCast_emod, Int.toNat_of_nonneg hn, Int.toNat_of_nonneg hm0]
  exact Int.emod_emod_of_dvd _ (by decide)
theorem ihk : ∀ k : Fin 32, ((iZ ((k : Nat) : Int)) &&& 31) = iZ ((k : Nat) : Int) := by decide +kernel
theorem ihs : ∀ k : Fin 32, ((BitVec.ofNat 32 k).smod 32#32) = BitVec.ofNat 32 k := by decide +kernel
theorem iZ_nat (k : Nat) : (iZ (k : Int)).toBitVec = BitVec.ofNat 32 k := by
  show BitVec.ofInt 32 (k : Int) = _
  exact BitVec.ofInt_natCast 32 k
theorem iZ_shr {x : Int} {k : Nat} (hx : 0 ≤ x) (h2 : x < 2147483648) (hk : k < 32) : iZ x >>> (iZ (k : Int) &&& 31) = iZ (x / 2 ^ k) := by
  rw [ihk ⟨k, hk⟩]
  have hp : (0 : Int) < 2 ^ k := by exact_mod_cast Nat.two_pow_pos k
  have hr : R32 (x / 2 ^ k) := by
    have h1 := Int.ediv_nonneg hx (Int.le_of_lt hp)
    have h2 : x / 2 ^ k ≤ x := Int.ediv_le_self _ hx
    omega
  rw [← Int32.toInt_inj, iZ_toInt hr]
  show (iZ x >>> iZ (k : Int)).toBitVec.toInt = _
  rw [Int32.toBitVec_shiftRight, iZ_nat]
  have := ihs ⟨k, hk⟩
  dsimp only at this
  rw [show (32 : BitVec 32) = 32#32 from rfl, this, BitVec.sshiftRight', BitVec.toInt_sshiftRight, BitVec.toNat_ofNat, Nat.mod_eq_of_lt (by omega)]
  show (iZ x).toInt >>> k = _
  rw [iZ_toInt (by omega), Int.shiftRight_eq_div_pow]
  norm_cast
theorem iZ_shl1 : ∀ k : Fin 31, iZ 1 <<< (iZ ((k : Nat) : Int) &&& 31) = iZ (2 ^ (k : Nat)) := by decide +kernel
section AWB
variable {g : GX} {M : MI} {d pc : Nat} {lv : List (Nat × Value)} {st : List Value} {V : AH} {sz : Nat} {Q : AQ}
theorem aw_ishrZ {x y : Int} (n : Nat) (hd : decode M.2.1 pc = .ok (.ishr, 1)) (hy : y = (n : Int)) (hn : n < 32) (hx : 0 ≤ x) (h2 : x < 2147483648) (k : AW g M d (pc + 1) lv (.int (iZ (x / 2 ^ n)) :: st) V sz Q) : AW g M d pc lv (.int (iZ y) :: .int (iZ x) :: st) V sz Q := aw_ishr hd (by rw [hy, iZ_shr hx h2 hn]; exact k)
theorem aw_iand1Z {x : Int} (hd : decode M.2.1 pc = .ok (.iand, 1)) (k : AW g M d (pc + 1) lv (.int (iZ (x % 2)) :: st) V sz Q) : AW g M d pc lv (.int (iZ 1) :: .int (iZ x) :: st) V sz Q := aw_iand hd (by rw [iZ_and1]; exact k)
theorem aw_ishl1Z {y : Int} (n : Nat) (hd : decode M.2.1 pc = .ok (.ishl, 1)) (hy : y = (n : Int)) (hn : n < 31) (k : AW g M d (pc + 1) lv (.int (iZ (2 ^ n)) :: st) V sz Q) : AW g M d pc lv (.int (iZ y) :: .int (iZ 1) :: st) V sz Q := aw_ishl hd (by rw [hy, iZ_shl1 ⟨n, hn⟩]; exact k)
end AWB
theorem two_pos (k : Nat) : (0 : Int) < 2 ^ k := by exact_mod_cast Nat.two_pow_pos k
theorem two_add (a b : Nat) : (2 : Int) ^ (a + b) = 2 ^ a * 2 ^ b := Int.pow_add 2 a b
theorem bas_pow (q : Nat) : (268435456 : Int) ^ q = 2 ^ (28 * q) := by rw [show (268435456 : Int) = 2 ^ 28 by decide, ← Int.pow_mul]
theorem two_le {a b : Nat} (h : a ≤ b) : (2 : Int) ^ a ≤ 2 ^ b := by exact_mod_cast Nat.pow_le_pow_right (show 0 < 2 by omega) h
/-- a bit of a number out of its digits -/
theorem bit_dg {F : Nat → Int} {n q s : Nat} {M : Int} (hF : ∀ k, k < n → 0 ≤ F k ∧ F k < 268435456) (hM : mg 268435456 F n = M) (hs : s < 28) : (pad F n q / 2 ^ s) % 2 = (M / 2 ^ (28 * q + s)) % 2 := by
  by_cases e : q < n
  · have h1 := mg_split (B := 268435456) (F := F) (p := q) (n - q)
    rw [show q + (n - q) = n by omega, hM] at h1
    have h2 := mg_split (B := 268435456) (F := wn F q) (p := 1) (n - q - 1)
    rw [show 1 + (n - q - 1) = n - q by omega] at h2
    rw [h2] at h1
    generalize mg 268435456 (wn (wn F q) 1) (n - q - 1) = T at h1
    have h3 : mg 268435456 (wn F q) 1 = F q := by simp [mg, wn]
    rw [h3, Int.pow_one] at h1
    have hb := mg_bd (show (0 : Int) < 268435456 by omega) (F := F) (n := q) (fun i hi => hF i (by omega))
    generalize mg 268435456 F q = L at h1 hb
    have e1 : M / 2 ^ (28 * q + s) = (F q + T * 268435456) / 2 ^ s := by
      rw [two_add, ← bas_pow, ← Int.ediv_ediv_of_nonneg (by rw [bas_pow]; exact Int.le_of_lt (two_pos _))]
      congr 1
      rw [h1, Int.add_mul_ediv_right _ _ (by rw [bas_pow]; have := two_pos (28 * q); omega), Int.ediv_eq_zero_of_lt hb.1 hb.2, Int.zero_add]
    rw [e1, show pad F n q = F q from if_pos e, show (268435456 : Int) = 2 * 2 ^ (27 - s) * 2 ^ s by rw [Int.mul_assoc, ← two_add, show 27 - s + s = 27 by omega]; decide, ← Int.mul_assoc, Int.add_mul_ediv_right _ _ (by have := two_pos s; omega), show T * (2 * 2 ^ (27 - s)) = 2 * (T * 2 ^ (27 - s)) by rw [← Int.mul_assoc, Int.mul_comm T 2, Int.mul_assoc]]
    omega
  · rw [show pad F n q = 0 from if_neg e, Int.zero_ediv]
    have hb := mg_bd (show (0 : Int) < 268435456 by omega) hF
    rw [hM, bas_pow] at hb
    have := two_le (show 28 * n ≤ 28 * q + s by omega)
    rw [Int.ediv_eq_zero_of_lt hb.1 (by omega)]
theorem bit_half (M : Int) (k : Nat) : M / 2 ^ k = 2 * (M / 2 ^ (k + 1)) + (M / 2 ^ k) % 2 := by
  rw [two_add, Int.pow_one, ← Int.ediv_ediv_of_nonneg (Int.le_of_lt (two_pos k))]
  omega
abbrev mX6_bitAt : MI := (yX6_bitAt, cX6_bitAt, 3, (some FieldType.int), noX)
theorem dX6_bitAt_0 : decode cX6_bitAt 0 = .ok (.aload_n 0, 1) := by decide +kernel
theorem dX6_bitAt_1 : decode cX6_bitAt 1 = .ok (.iload_n 1, 1) := by decide +kernel
theorem dX6_bitAt_2 : decode cX6_bitAt 2 = .ok (.iload_n 2, 1) := by decide +kernel
theorem dX6_bitAt_3 : decode cX6_bitAt 3 = .ok (.bipush 28, 2) := by decide +kernel
theorem dX6_bitAt_5 : decode cX6_bitAt 5 = .ok (.idiv, 1) := by decide +kernel
theorem dX6_bitAt_6 : decode cX6_bitAt 6 = .ok (.invokevirtual 75, 3) := by decide +kernel
theorem dX6_bitAt_9 : decode cX6_bitAt 9 = .ok (.iload_n 2, 1) := by decide +kernel
theorem dX6_bitAt_10 : decode cX6_bitAt 10 = .ok (.bipush 28, 2) := by decide +kernel
theorem dX6_bitAt_12 : decode cX6_bitAt 12 = .ok (.irem, 1) := by decide +kernel
theorem dX6_bitAt_13 : decode cX6_bitAt 13 = .ok (.ishr, 1) := by decide +kernel
theorem dX6_bitAt_14 : decode cX6_bitAt 14 = .ok (.iconst 1, 1) := by decide +kernel
theorem dX6_bitAt_15 : decode cX6_bitAt 15 = .ok (.iand, 1) := by decide +kernel
theorem dX6_bitAt_16 : decode cX6_bitAt 16 = .ok (.ireturn, 1) := by decide +kernel
theorem m_bitAt (g : GX) (d : Nat) {V : AH} {mo sz c b : Nat} {rk kn ar ac : Int} {zs : Nat → Int} (hmo : V mo = some (moO mo rk kn ar ac)) (hM : MN g mo V zs) (hc : c < 460) (hb : b < 3000) : AMet g mX6_bitAt (d + 1) [.ref mo, .int (iZ c), .int (iZ b)] V sz (Ex (some (.int (iZ (((zs c).natAbs : Int) / 2 ^ b % 2)))) V sz 0 0) := by
  obtain ⟨D, LN, SG, O1, O2, hA, h0⟩ := hM
  obtain ⟨n, hn, hn1, -, hF, hmg, -⟩ := h0 c hc
  have hbit := bit_dg (q := b / 28) (s := b % 28) hF hmg (by omega)
  rw [show 28 * (b / 28) + b % 28 = b by omega] at hbit
  have hp : 0 ≤ pad (dg D c) n (b / 28) ∧ pad (dg D c) n (b / 28) < 268435456 := by
    unfold pad; split
    · exact hF _ (by assumption)
    · omega
  refine AMet.of rfl rfl (Nat.le_of_ble_eq_true rfl) ?_
  show AW g mX6_bitAt (d + 1) 0 [(0, .ref mo), (1, .int (iZ c)), (2, .int (iZ b))] [] V sz _
  refine aw_aload_n dX6_bitAt_0 (by rfl) (Or.inr ⟨_, rfl⟩) ?_
  refine aw_iload_n dX6_bitAt_1 (by rfl) ?_
  refine aw_iload_n dX6_bitAt_2 (by rfl) ?_
  refine aw_bipushZ dX6_bitAt_3 (by decide) ?_
  refine aw_idivZ dX6_bitAt_5 (by omega) (by omega) (by omega) ?_
  rw [show ((b : Int)).tdiv 28 = ((b / 28 : Nat) : Int) from rfl]
  refine aw_callv vX6_75 dX6_bitAt_6 hmo (m_at d (c := c) (k := b / 28) (n := n) hmo hA hc hn hn1 (by omega)) (by rfl) (by rfl) (by omega) (Nat.le_of_ble_eq_true rfl) ?_
  rintro _ _ _ _ _ ⟨rfl, rfl, rfl, rfl, rfl⟩ -
  refine q0 ?_
  refine aw_iload_n dX6_bitAt_9 (by rfl) ?_
  refine aw_bipushZ dX6_bitAt_10 (by decide) ?_
  refine aw_iremZ dX6_bitAt_12 (by omega) (by omega) (by omega) ?_
  rw [show ((b : Int)).tmod 28 = ((b % 28 : Nat) : Int) from rfl]
  refine aw_ishrZ (b % 28) dX6_bitAt_13 rfl (by omega) hp.1 (by omega) ?_
  refine aw_iconstZ dX6_bitAt_14 ?_
  refine aw_iand1Z dX6_bitAt_15 ?_
  refine aw_iret dX6_bitAt_16 rfl (by rfl) ?_
  rw [← hbit]
  exact ⟨rfl, rfl, rfl, rfl, rfl⟩
abbrev mX6_bits : MI := (yX6_bits, cX6_bits, 6, (some FieldType.int), noX)
theorem dX6_bits_0 : decode cX6_bits 0 = .ok (.aload_n 0, 1) := by decide +kernel
theorem dX6_bits_1 : decode cX6_bits 1 = .ok (.iload_n 1, 1) := by decide +kernel
theorem dX6_bits_2 : decode cX6_bits 2 = .ok (.iload_n 2, 1) := by decide +kernel
theorem dX6_bits_3 : decode cX6_bits 3 = .ok (.invokevirtual 177, 3) := by decide +kernel
theorem dX6_bits_6 : decode cX6_bits 6 = .ok (.ifCond .eq 13, 3) := by decide +kernel
theorem dX6_bits_9 : decode cX6_bits 9 = .ok (.iload_n 3, 1) := by decide +kernel
theorem dX6_bits_10 : decode cX6_bits 10 = .ok (.ifCond .lt 9, 3) := by decide +kernel
theorem dX6_bits_13 : decode cX6_bits 13 = .ok (.iload_n 3, 1) := by decide +kernel
theorem dX6_bits_14 : decode cX6_bits 14 = .ok (.bipush 90, 2) := by decide +kernel
theorem dX6_bits_16 : decode cX6_bits 16 = .ok (.if_icmp .le 5, 3) := by decide +kernel
theorem dX6_bits_19 : decode cX6_bits 19 = .ok (.iconst 0, 1) := by decide +kernel
theorem dX6_bits_20 : decode cX6_bits 20 = .ok (.ireturn, 1) := by decide +kernel
theorem dX6_bits_21 : decode cX6_bits 21 = .ok (.iconst 0, 1) := by decide +kernel
theorem dX6_bits_22 : decode cX6_bits 22 = .ok (.istore 4, 2) := by decide +kernel
theorem dX6_bits_24 : decode cX6_bits 24 = .ok (.bipush 31, 2) := by decide +kernel
theorem dX6_bits_26 : decode cX6_bits 26 = .ok (.istore 5, 2) := by decide +kernel
theorem dX6_bits_28 : decode cX6_bits 28 = .ok (.iload 5, 2) := by decide +kernel
theorem dX6_bits_30 : decode cX6_bits 30 = .ok (.ifCond .lt 37, 3) := by decide +kernel
theorem dX6_bits_33 : decode cX6_bits 33 = .ok (.iconst 2, 1) := by decide +kernel
theorem dX6_bits_34 : decode cX6_bits 34 = .ok (.iload 4, 2) := by decide +kernel
theorem dX6_bits_36 : decode cX6_bits 36 = .ok (.imul, 1) := by decide +kernel
theorem dX6_bits_37 : decode cX6_bits 37 = .ok (.aload_n 0, 1) := by decide +kernel
theorem dX6_bits_38 : decode cX6_bits 38 = .ok (.sipush 265, 3) := by decide +kernel
theorem dX6_bits_41 : decode cX6_bits 41 = .ok (.bipush 10, 2) := by decide +kernel
theorem dX6_bits_43 : decode cX6_bits 43 = .ok (.iload_n 1, 1) := by decide +kernel
theorem dX6_bits_44 : decode cX6_bits 44 = .ok (.imul, 1) := by decide +kernel
theorem dX6_bits_45 : decode cX6_bits 45 = .ok (.iadd, 1) := by decide +kernel
theorem dX6_bits_46 : decode cX6_bits 46 = .ok (.iload_n 2, 1) := by decide +kernel
theorem dX6_bits_47 : decode cX6_bits 47 = .ok (.iadd, 1) := by decide +kernel
theorem dX6_bits_48 : decode cX6_bits 48 = .ok (.bipush 32, 2) := by decide +kernel
theorem dX6_bits_50 : decode cX6_bits 50 = .ok (.iload_n 3, 1) := by decide +kernel
theorem dX6_bits_51 : decode cX6_bits 51 = .ok (.imul, 1) := by decide +kernel
theorem dX6_bits_52 : decode cX6_bits 52 = .ok (.iload 5, 2) := by decide +kernel
theorem dX6_bits_54 : decode cX6_bits 54 = .ok (.iadd, 1) := by decide +kernel
theorem dX6_bits_55 : decode cX6_bits 55 = .ok (.invokevirtual 180, 3) := by decide +kernel
theorem dX6_bits_58 : decode cX6_bits 58 = .ok (.iadd, 1) := by decide +kernel
theorem dX6_bits_59 : decode cX6_bits 59 = .ok (.istore 4, 2) := by decide +kernel
theorem dX6_bits_61 : decode cX6_bits 61 = .ok (.iinc 5 (-1), 3) := by decide +kernel
theorem dX6_bits_64 : decode cX6_bits 64 = .ok (.goto (-36), 3) := by decide +kernel
theorem dX6_bits_67 : decode cX6_bits 67 = .ok (.iload 4, 2) := by decide +kernel
theorem dX6_bits_69 : decode cX6_bits 69 = .ok (.ireturn, 1) := by decide +kernel
def vbt (M : Int) (k c : Nat) : Int := M / 2 ^ (32 * k + c) - 2 ^ (32 - c) * (M / 2 ^ (32 * k + 32))
theorem vbt_up {M : Int} {k c : Nat} (hc : c < 32) : vbt M k c = 2 * vbt M k (c + 1) + M / 2 ^ (32 * k + c) % 2 := by
  unfold vbt
  have h1 := bit_half M (32 * k + c)
  rw [show 32 * k + c + 1 = 32 * k + (c + 1) by omega] at h1
  rw [show 32 - c = 32 - (c + 1) + 1 by omega, two_add _ 1, Int.pow_one]
  generalize M / 2 ^ (32 * k + (c + 1)) = a at *
  generalize M / 2 ^ (32 * k + c) = b at *
  rw [show (2 : Int) ^ (32 - (c + 1)) * 2 * (M / 2 ^ (32 * k + 32)) = 2 * (2 ^ (32 - (c + 1)) * (M / 2 ^ (32 * k + 32))) by rw [Int.mul_comm _ 2, Int.mul_assoc]]
  generalize (2 : Int) ^ (32 - (c + 1)) * (M / 2 ^ (32 * k + 32)) = e
  omega
theorem bs_loop (d : Nat) {g : GX} {V : AH} {mo sz i j k : Nat} {rk kn ar ac : Int} {zs : Nat → Int} (hmo : V mo = some (moO mo rk kn ar ac)) (hM : MN g mo V zs) (hi : i < 10) (hj : j < 10) (hk : k ≤ 90) : ∀ y : Nat, y ≤ 32 → AW g mX6_bits (d + 2) 28 [(5, .int (iZ ((y : Int) - 1))), (4, .int (iZ (vbt ((zs (265 + 10 * i + j)).natAbs : Int) k y))), (0, .ref mo), (1, .int (iZ i)), (2, .int (iZ j)), (3, .int (iZ k))] [] V sz (Ex (some (.int (iZ (((zs (265 + 10 * i + j)).natAbs : Int) / 2 ^ (32 * k))))) V sz 0 0)
  | 0, hy => by
    refine aw_iload dX6_bits_28 (by rfl) ?_
    refine aw_if_ltZ (tgt := 67) dX6_bits_30 (by decide) (by omega) (fun hc_30 => ?_) (fun hc_30 => ?_)
    · refine aw_iload dX6_bits_67 (by rfl) ?_
      refine aw_iret dX6_bits_69 rfl (by rfl) ?_
      rw [show vbt ((zs (265 + 10 * i + j)).natAbs : Int) k 0 = ((zs (265 + 10 * i + j)).natAbs : Int) / 2 ^ (32 * k) + 4294967296 * (-(((zs (265 + 10 * i + j)).natAbs : Int) / 2 ^ (32 * k + 32))) by
        unfold vbt
        rw [Nat.add_zero, show (2 : Int) ^ (32 - 0) = 4294967296 by decide]
        omega, iZ_mod]
      exact ⟨rfl, rfl, rfl, rfl, rfl⟩
    · exact absurd (show ((0 : Nat) : Int) - 1 < 0 by omega) hc_30
  | y + 1, hy => by
    have IH := @bs_loop d g V mo sz i j k rk kn ar ac zs hmo hM hi hj hk y (by omega)
    refine aw_iload dX6_bits_28 (by rfl) ?_
    refine aw_if_ltZ (tgt := 67) dX6_bits_30 (by decide) (by omega) (fun hc_30 => ?_) (fun hc_30 => ?_)
    · exact absurd hc_30 (by omega)
    · refine aw_iconstZ dX6_bits_33 ?_
      refine aw_iload dX6_bits_34 (by rfl) ?_
      refine aw_imulZ dX6_bits_36 ?_
      refine aw_aload_n dX6_bits_37 (by rfl) (Or.inr ⟨_, rfl⟩) ?_
      refine aw_sipushZ dX6_bits_38 (by decide) ?_
      refine aw_bipushZ dX6_bits_41 (by decide) ?_
      refine aw_iload_n dX6_bits_43 (by rfl) ?_
      refine aw_imulZ dX6_bits_44 ?_
      refine aw_iaddZ dX6_bits_45 ?_
      refine aw_iload_n dX6_bits_46 (by rfl) ?_
      refine aw_iaddZ dX6_bits_47 ?_
      refine aw_bipushZ dX6_bits_48 (by decide) ?_
      refine aw_iload_n dX6_bits_50 (by rfl) ?_
      refine aw_imulZ dX6_bits_51 ?_
      refine aw_iload dX6_bits_52 (by rfl) ?_
      refine aw_iaddZ dX6_bits_54 ?_
      refine aw_topi (y := ((32 * k + y : Nat) : Int)) (by omega) ?_
      rw [show (265 : Int) + 10 * (i : Int) + (j : Int) = ((265 + 10 * i + j : Nat) : Int) by omega]
      refine aw_callv vX6_180 dX6_bits_55 hmo (m_bitAt g d (c := 265 + 10 * i + j) (b := 32 * k + y) hmo hM (by omega) (by omega)) (by rfl) (by rfl) (by omega) (Nat.le_of_ble_eq_true rfl) ?_
      rintro _ _ _ _ _ ⟨rfl, rfl, rfl, rfl, rfl⟩ -
      refine q0 ?_
      refine aw_iaddZ dX6_bits_58 ?_
      refine aw_istore dX6_bits_59 (by decide) ?_
      refine aw_iincZ dX6_bits_61 (by rfl) (by decide) ?_
      refine aw_goto (tgt := 28) dX6_bits_64 (by decide) ?_
      rw [← vbt_up (by omega), show (((y + 1 : Nat) : Int) - 1 + -1) = (y : Int) - 1 by omega]
      refine aw_pk [5, 4, 0, 1, 2, 3] (by rfl) ?_
      exact IH
theorem RX.small {g : GX} {mo : Nat} {V : AH} {zs : Nat → Int} {S : TSt} {A : ASt} (hR : RX g mo V zs S A) {c : Nat} (hc : c < 460) : ((zs c).natAbs : Int) < 2 ^ 2800 := by
  obtain ⟨-, -, -, -, -, -, -, ⟨D, LN, SG, O1, O2, hA, h0⟩, -⟩ := hR
  obtain ⟨n, hn, hn1, -, hF, hmg, -⟩ := h0 c hc
  have hb := mg_bd (show (0 : Int) < 268435456 by omega) hF
  rw [hmg, bas_pow] at hb
  have := two_le (show 28 * n ≤ 2800 by omega)
  omega
theorem m_bits (g : GX) (d : Nat) {V : AH} {mo sz : Nat} {zs : Nat → Int} {S : TSt} {A : ASt} {i j q : Int} (hR : RX g mo V zs S A) (hi : R32 i) (hj : R32 j) (hq : R32 q) : AMet g mX6_bits (d + 2) [.ref mo, .int (iZ i), .int (iZ j), .int (iZ q)] V sz (Ex (some (.int (iZ (spBits A i j q)))) V sz 0 0) := by
  obtain ⟨⟨rk, kn, hmo⟩, -, -, -, -, -, -, hM, hz, -, hA⟩ := id hR
  have hAo := hA
  obtain ⟨-, b1, b2, -⟩ := hAo
  have ZR : spBits A i j q = 0 → AW g mX6_bits (d + 2) 19 [(0, .ref mo), (1, .int (iZ i)), (2, .int (iZ j)), (3, .int (iZ q))] [] V sz (Ex (some (.int (iZ (spBits A i j q)))) V sz 0 0) := fun e => by
    rw [e]
    refine aw_iconstZ dX6_bits_19 ?_
    refine aw_iret dX6_bits_20 rfl (by rfl) ?_
    exact ⟨rfl, rfl, rfl, rfl, rfl⟩
  refine AMet.of rfl rfl (Nat.le_of_ble_eq_true rfl) ?_
  show AW g mX6_bits (d + 2) 0 [(0, .ref mo), (1, .int (iZ i)), (2, .int (iZ j)), (3, .int (iZ q))] [] V sz _
  refine aw_aload_n dX6_bits_0 (by rfl) (Or.inr ⟨_, rfl⟩) ?_
  refine aw_iload_n dX6_bits_1 (by rfl) ?_
  refine aw_iload_n dX6_bits_2 (by rfl) ?_
  refine aw_callv vX6_177 dX6_bits_3 hmo (m_isAnswer g (d + 1) (i := i) (j := j) hR hi hj) (by rfl) (by rfl) (by omega) (Nat.le_of_ble_eq_true rfl) ?_
  rintro _ _ _ _ _ ⟨rfl, rfl, rfl, rfl, rfl⟩ -
  refine q0 ?_
  refine aw_if_eqZ (tgt := 19) dX6_bits_6 (by decide) (by unfold iaZ; split <;> omega) (fun hc_6 => ?_) (fun hc_6 => ?_)
  · have hb : ¬ (0 ≤ i ∧ i < A.h ∧ 0 ≤ j ∧ j < A.w) := fun z => by rw [show iaZ A i j = 1 from if_pos z] at hc_6; omega
    exact ZR (if_neg (fun z => hb z.1))
  · have hb : 0 ≤ i ∧ i < A.h ∧ 0 ≤ j ∧ j < A.w := Classical.byContradiction (fun z => hc_6 (if_neg z))
    obtain ⟨ii, rfl⟩ : ∃ n : Nat, i = (n : Int) := ⟨i.toNat, by omega⟩
    obtain ⟨jj, rfl⟩ : ∃ n : Nat, j = (n : Int) := ⟨j.toNat, by omega⟩
    refine aw_iload_n dX6_bits_9 (by rfl) ?_
    refine aw_if_ltZ (tgt := 19) dX6_bits_10 (by decide) hq (fun hc_10 => ?_) (fun hc_10 => ?_)
    · exact ZR (if_neg (fun z => absurd z.2 (by omega)))
    · refine aw_iload_n dX6_bits_13 (by rfl) ?_
      refine aw_bipushZ dX6_bits_14 (by decide) ?_
      refine aw_icmp_leZ (tgt := 21) dX6_bits_16 (by decide) hq (by omega) (fun hc_16 => ?_) (fun hc_16 => ?_)
      · refine aw_iconstZ dX6_bits_21 ?_
        refine aw_istore dX6_bits_22 (by decide) ?_
        refine aw_bipushZ dX6_bits_24 (by decide) ?_
        refine aw_istore dX6_bits_26 (by decide) ?_
        obtain ⟨k, rfl⟩ : ∃ n : Nat, q = (n : Int) := ⟨q.toNat, by omega⟩
        rw [show spBits A ii jj k = ((zs (265 + 10 * ii + jj)).natAbs : Int) / 2 ^ (32 * k) by
          show (if (0 ≤ (ii : Int) ∧ (ii : Int) < A.h ∧ 0 ≤ (jj : Int) ∧ (jj : Int) < A.w) ∧ 0 ≤ (k : Int) then ((A.m ii jj).natAbs : Int) / 2 ^ (32 * k) else 0) = _
          rw [if_pos ⟨hb, by omega⟩, ← hz ii jj (by omega) (by omega)]]
        refine aw_pk [5, 4, 0, 1, 2, 3] (by rfl) ?_
        have := bs_loop d (sz := sz) (i := ii) (j := jj) (k := k) hmo hM (by omega) (by omega) (by omega) 32 (Nat.le_refl _)
        rw [show vbt ((zs (265 + 10 * ii + jj)).natAbs : Int) k 32 = 0 by unfold vbt; rw [show (2 : Int) ^ (32 - 32) = 1 by decide]; omega] at this
        exact this
      · refine ZR ?_
        show (if (0 ≤ (ii : Int) ∧ (ii : Int) < A.h ∧ 0 ≤ (jj : Int) ∧ (jj : Int) < A.w) ∧ 0 ≤ q then ((A.m ii jj).natAbs : Int) / 2 ^ (32 * q.toNat) else 0) = 0
        rw [if_pos ⟨hb, by omega⟩, ← hz ii jj (by omega) (by omega)]
        have h1 := hR.small (c := 265 + 10 * ii + jj) (by omega)
        have h2 := two_le (show 2800 ≤ 32 * q.toNat by omega)
        exact Int.ediv_eq_zero_of_lt (by omega) (by omega)
def ExP (P : Option Value → Prop) (V : AH) (sz : Nat) : AQ := fun r V' sz' mc ms => P r ∧ V = V' ∧ sz = sz' ∧ 0 = mc ∧ 0 = ms
abbrev mX6_length : MI := (yX6_length, cX6_length, 4, (some FieldType.int), noX)
theorem dX6_length_0 : decode cX6_length 0 = .ok (.aload_n 0, 1) := by decide +kernel
theorem dX6_length_1 : decode cX6_length 1 = .ok (.iload_n 1, 1) := by decide +kernel
theorem dX6_length_2 : decode cX6_length 2 = .ok (.iload_n 2, 1) := by decide +kernel
theorem dX6_length_3 : decode cX6_length 3 = .ok (.invokevirtual 177, 3) := by decide +kernel
theorem dX6_length_6 : decode cX6_length 6 = .ok (.ifCond .ne 5, 3) := by decide +kernel
theorem dX6_length_9 : decode cX6_length 9 = .ok (.iconst (-1), 1) := by decide +kernel
theorem dX6_length_10 : decode cX6_length 10 = .ok (.ireturn, 1) := by decide +kernel
theorem dX6_length_11 : decode cX6_length 11 = .ok (.bipush 28, 2) := by decide +kernel
theorem dX6_length_13 : decode cX6_length 13 = .ok (.aload_n 0, 1) := by decide +kernel
theorem dX6_length_14 : decode cX6_length 14 = .ok (.getfield 14, 3) := by decide +kernel
theorem dX6_length_17 : decode cX6_length 17 = .ok (.sipush 265, 3) := by decide +kernel
theorem dX6_length_20 : decode cX6_length 20 = .ok (.bipush 10, 2) := by decide +kernel
theorem dX6_length_22 : decode cX6_length 22 = .ok (.iload_n 1, 1) := by decide +kernel
theorem dX6_length_23 : decode cX6_length 23 = .ok (.imul, 1) := by decide +kernel
theorem dX6_length_24 : decode cX6_length 24 = .ok (.iadd, 1) := by decide +kernel
theorem dX6_length_25 : decode cX6_length 25 = .ok (.iload_n 2, 1) := by decide +kernel
theorem dX6_length_26 : decode cX6_length 26 = .ok (.iadd, 1) := by decide +kernel
theorem dX6_length_27 : decode cX6_length 27 = .ok (.iaload, 1) := by decide +kernel
theorem dX6_length_28 : decode cX6_length 28 = .ok (.imul, 1) := by decide +kernel
theorem dX6_length_29 : decode cX6_length 29 = .ok (.istore_n 3, 1) := by decide +kernel
theorem dX6_length_30 : decode cX6_length 30 = .ok (.iload_n 3, 1) := by decide +kernel
theorem dX6_length_31 : decode cX6_length 31 = .ok (.ifCond .le 29, 3) := by decide +kernel
theorem dX6_length_34 : decode cX6_length 34 = .ok (.aload_n 0, 1) := by decide +kernel
theorem dX6_length_35 : decode cX6_length 35 = .ok (.sipush 265, 3) := by decide +kernel
theorem dX6_length_38 : decode cX6_length 38 = .ok (.bipush 10, 2) := by decide +kernel
theorem dX6_length_40 : decode cX6_length 40 = .ok (.iload_n 1, 1) := by decide +kernel
theorem dX6_length_41 : decode cX6_length 41 = .ok (.imul, 1) := by decide +kernel
theorem dX6_length_42 : decode cX6_length 42 = .ok (.iadd, 1) := by decide +kernel
theorem dX6_length_43 : decode cX6_length 43 = .ok (.iload_n 2, 1) := by decide +kernel
theorem dX6_length_44 : decode cX6_length 44 = .ok (.iadd, 1) := by decide +kernel
theorem dX6_length_45 : decode cX6_length 45 = .ok (.iload_n 3, 1) := by decide +kernel
theorem dX6_length_46 : decode cX6_length 46 = .ok (.iconst 1, 1) := by decide +kernel
theorem dX6_length_47 : decode cX6_length 47 = .ok (.isub, 1) := by decide +kernel
theorem dX6_length_48 : decode cX6_length 48 = .ok (.invokevirtual 180, 3) := by decide +kernel
theorem dX6_length_51 : decode cX6_length 51 = .ok (.ifCond .ne 9, 3) := by decide +kernel
theorem dX6_length_54 : decode cX6_length 54 = .ok (.iinc 3 (-1), 3) := by decide +kernel
theorem dX6_length_57 : decode cX6_length 57 = .ok (.goto (-27), 3) := by decide +kernel
theorem dX6_length_60 : decode cX6_length 60 = .ok (.iload_n 3, 1) := by decide +kernel
theorem dX6_length_61 : decode cX6_length 61 = .ok (.ireturn, 1) := by decide +kernel
theorem ln_loop (d : Nat) {g : GX} {V : AH} {mo sz i j : Nat} {rk kn ar ac : Int} {zs : Nat → Int} (hmo : V mo = some (moO mo rk kn ar ac)) (hM : MN g mo V zs) (hi : i < 10) (hj : j < 10) : ∀ n : Nat, n ≤ 2800 → ((zs (265 + 10 * i + j)).natAbs : Int) < 2 ^ n → AW g mX6_length (d + 2) 30 [(3, .int (iZ n)), (0, .ref mo), (1, .int (iZ i)), (2, .int (iZ j))] [] V sz (ExP (fun r => ∃ c : Nat, BL (zs (265 + 10 * i + j)) c ∧ c ≤ 2800 ∧ some (.int (iZ c)) = r) V sz)
  | 0, hn, hlt => by
    refine aw_iload_n dX6_length_30 (by rfl) ?_
    refine aw_if_leZ (tgt := 60) dX6_length_31 (by decide) (by omega) (fun hc_31 => ?_) (fun hc_31 => ?_)
    · refine aw_iload_n dX6_length_60 (by rfl) ?_
      refine aw_iret dX6_length_61 rfl (by rfl) ?_
      exact ⟨⟨0, Or.inl ⟨by have : (2 : Int) ^ 0 = 1 := by decide
                            omega, rfl⟩, by omega, rfl⟩, rfl, rfl, rfl, rfl⟩
    · exact absurd (show ((0 : Nat) : Int) ≤ 0 by omega) hc_31
  | n + 1, hn, hlt => by
    have IH := @ln_loop d g V mo sz i j rk kn ar ac zs hmo hM hi hj n (by omega)
    have hh := bit_half ((zs (265 + 10 * i + j)).natAbs : Int) n
    have hz0 : ((zs (265 + 10 * i + j)).natAbs : Int) / 2 ^ (n + 1) = 0 := Int.ediv_eq_zero_of_lt (by omega) hlt
    have hp := two_pos n
    refine aw_iload_n dX6_length_30 (by rfl) ?_
    refine aw_if_leZ (tgt := 60) dX6_length_31 (by decide) (by omega) (fun hc_31 => ?_) (fun hc_31 => ?_)
    · exact absurd hc_31 (by omega)
    · refine aw_aload_n dX6_length_34 (by rfl) (Or.inr ⟨_, rfl⟩) ?_
      refine aw_sipushZ dX6_length_35 (by decide) ?_
      refine aw_bipushZ dX6_length_38 (by decide) ?_
      refine aw_iload_n dX6_length_40 (by rfl) ?_
      refine aw_imulZ dX6_length_41 ?_
      refine aw_iaddZ dX6_length_42 ?_
      refine aw_iload_n dX6_length_43 (by rfl) ?_
      refine aw_iaddZ dX6_length_44 ?_
      refine aw_iload_n dX6_length_45 (by rfl) ?_
      refine aw_iconstZ dX6_length_46 ?_
      refine aw_isubZ dX6_length_47 ?_
      refine aw_topi (y := (n : Int)) (by omega) ?_
      rw [show (265 : Int) + 10 * (i : Int) + (j : Int) = ((265 + 10 * i + j : Nat) : Int) by omega]
      refine aw_callv vX6_180 dX6_length_48 hmo (m_bitAt g d (c := 265 + 10 * i + j) (b := n) hmo hM (by omega) (by omega)) (by rfl) (by rfl) (by omega) (Nat.le_of_ble_eq_true rfl) ?_
      rintro _ _ _ _ _ ⟨rfl, rfl, rfl, rfl, rfl⟩ -
      refine q0 ?_
      refine aw_if_neZ (tgt := 60) dX6_length_51 (by decide) (by omega) (fun hc_51 => ?_) (fun hc_51 => ?_)
      · refine aw_iload_n dX6_length_60 (by rfl) ?_
        refine aw_iret dX6_length_61 rfl (by rfl) ?_
        rw [hz0] at hh
        have h1 : 1 ≤ ((zs (265 + 10 * i + j)).natAbs : Int) / 2 ^ n := by omega
        have h2 := (Int.le_ediv_iff_mul_le hp).mp h1
        exact ⟨⟨n + 1, Or.inr ⟨by omega, by omega, by rw [show n + 1 - 1 = n by omega]; unfold ab; omega, hlt⟩, by omega, rfl⟩, rfl, rfl, rfl, rfl⟩
      · refine aw_iincZ dX6_length_54 (by rfl) (by decide) ?_
        refine aw_goto (tgt := 30) dX6_length_57 (by decide) ?_
        rw [show (((n + 1 : Nat) : Int) + -1) = (n : Int) by omega]
        refine IH ?_
        rw [hz0] at hh
        have h0 : ((zs (265 + 10 * i + j)).natAbs : Int) / 2 ^ n = 0 := by omega
        have h9 := Int.lt_ediv_add_one_mul_self ((zs (265 + 10 * i + j)).natAbs : Int) hp
        rw [h0, Int.zero_add, Int.one_mul] at h9
        exact h9
theorem m_length (g : GX) (d : Nat) {V : AH} {mo sz : Nat} {zs : Nat → Int} {S : TSt} {A : ASt} {i j : Int} (hR : RX g mo V zs S A) (hi : R32 i) (hj : R32 j) : AMet g mX6_length (d + 2) [.ref mo, .int (iZ i), .int (iZ j)] V sz (ExP (fun r => ∃ q : Int, spLen A i j q ∧ -1 ≤ q ∧ q ≤ 5000 ∧ some (.int (iZ q)) = r) V sz) := by
  obtain ⟨⟨rk, kn, hmo⟩, -, -, -, -, -, -, hM, hz, -, hA⟩ := id hR
  obtain ⟨D, LN, SG, O1, O2, hAr, h0⟩ := id hM
  have hAo := hA
  obtain ⟨-, b1, b2, -⟩ := hAo
  refine AMet.of rfl rfl (Nat.le_of_ble_eq_true rfl) ?_
  show AW g mX6_length (d + 2) 0 [(0, .ref mo), (1, .int (iZ i)), (2, .int (iZ j))] [] V sz _
  refine aw_aload_n dX6_length_0 (by rfl) (Or.inr ⟨_, rfl⟩) ?_
  refine aw_iload_n dX6_length_1 (by rfl) ?_
  refine aw_iload_n dX6_length_2 (by rfl) ?_
  refine aw_callv vX6_177 dX6_length_3 hmo (m_isAnswer g (d + 1) (i := i) (j := j) hR hi hj) (by rfl) (by rfl) (by omega) (Nat.le_of_ble_eq_true rfl) ?_
  rintro _ _ _ _ _ ⟨rfl, rfl, rfl, rfl, rfl⟩ -
  refine q0 ?_
  refine aw_if_neZ (tgt := 11) dX6_length_6 (by decide) (by unfold iaZ; split <;> omega) (fun hc_6 => ?_) (fun hc_6 => ?_)
  · have hb : 0 ≤ i ∧ i < A.h ∧ 0 ≤ j ∧ j < A.w := Classical.byContradiction (fun z => hc_6 (if_neg z))
    obtain ⟨ii, rfl⟩ : ∃ n : Nat, i = (n : Int) := ⟨i.toNat, by omega⟩
    obtain ⟨jj, rfl⟩ : ∃ n : Nat, j = (n : Int) := ⟨j.toNat, by omega⟩
    obtain ⟨n, hn, hn1, -, hF, hmg, -⟩ := h0 (265 + 10 * ii + jj) (by omega)
    refine aw_bipushZ dX6_length_11 (by decide) ?_
    refine aw_aload_n dX6_length_13 (by rfl) (Or.inr ⟨_, rfl⟩) ?_
    refine aw_get fX6_14 dX6_length_14 hmo (by rfl) ?_
    refine aw_sipushZ dX6_length_17 (by decide) ?_
    refine aw_bipushZ dX6_length_20 (by decide) ?_
    refine aw_iload_n dX6_length_22 (by rfl) ?_
    refine aw_imulZ dX6_length_23 ?_
    refine aw_iaddZ dX6_length_24 ?_
    refine aw_iload_n dX6_length_25 (by rfl) ?_
    refine aw_iaddZ dX6_length_26 ?_
    refine aw_ialdZ (265 + 10 * ii + jj) dX6_length_27 hAr.2.1 (by omega) (by omega) (by omega) ?_
    rw [hn]
    refine aw_imulZ dX6_length_28 ?_
    refine aw_istore_n dX6_length_29 (by decide) ?_
    rw [show (28 : Int) * (n : Int) = ((28 * n : Nat) : Int) by omega]
    refine aw_pk [3, 0, 1, 2] (by rfl) ?_
    refine (ln_loop d (i := ii) (j := jj) hmo hM (by omega) (by omega) (28 * n) (by omega) ?_).mono ?_
    · have hbd := mg_bd (show (0 : Int) < 268435456 by omega) hF
      rw [hmg, bas_pow] at hbd
      exact hbd.2
    · rintro r V' sz' mc ms ⟨⟨c, hc, hc2, rfl⟩, rfl, rfl, rfl, rfl⟩
      exact ⟨⟨c, Or.inl ⟨ii, jj, c, rfl, rfl, by omega, by omega, by rw [← hz ii jj (by omega) (by omega)]; exact hc, rfl⟩, by omega, by omega, rfl⟩, rfl, rfl, rfl, rfl⟩
  · have hb : ¬ inA A i j := fun z => by rw [show iaZ A i j = 1 from if_pos z] at hc_6; omega
    refine aw_iconstZ dX6_length_9 ?_
    refine aw_iret dX6_length_10 rfl (by rfl) ?_
    exact ⟨⟨-1, Or.inr ⟨hb, rfl⟩, by omega, by omega, rfl⟩, rfl, rfl, rfl, rfl⟩

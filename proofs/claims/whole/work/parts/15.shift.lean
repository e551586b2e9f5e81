/-! ===== numberOfLeadingZeros; Whole.shifted ===== -/
theorem sh5 : ∀ k : Fin 32, ((iZ ((k : Nat) : Int)).toUInt32 &&& Int32.toUInt32 31) = UInt32.ofNat k := by decide +kernel
theorem iZ_ushr {x : Int} {k : Nat} (hx : 0 ≤ x) (h2 : x < 2147483648) (hk : k < 32) : ((iZ x).toUInt32 >>> ((iZ (k : Int)).toUInt32 &&& Int32.toUInt32 31)).toInt32 = iZ (x / 2 ^ k) := by
  have hp : (0 : Int) < 2 ^ k := by exact_mod_cast Nat.two_pow_pos k
  have h3 : x / 2 ^ k ≤ x := Int.ediv_le_self _ hx
  have h4 := Int.ediv_nonneg hx (Int.le_of_lt hp)
  have hs := sh5 ⟨k, hk⟩
  dsimp only at hs
  rw [hs]
  apply Int32.toBitVec_inj.1
  apply BitVec.eq_of_toNat_eq
  rw [UInt32.toBitVec_toInt32, UInt32.toBitVec_shiftRight, Int32.toBitVec_toUInt32]
  have hm : ((UInt32.ofNat k).toBitVec % 32) = BitVec.ofNat 32 k := by
    apply BitVec.eq_of_toNat_eq
    rw [BitVec.toNat_umod]
    show (k % 2 ^ 32) % 32 = k % 2 ^ 32
    rw [Nat.mod_eq_of_lt (show k < 2 ^ 32 by omega), Nat.mod_eq_of_lt hk]
  rw [hm, BitVec.ushiftRight_eq', BitVec.toNat_ushiftRight, BitVec.toNat_ofNat, Nat.mod_eq_of_lt (show k < 2 ^ 32 by omega), iZ_nn x hx (by omega), iZ_nn _ h4 (by omega), Nat.shiftRight_eq_div_pow]
  apply Int.ofNat_inj.mp
  rw [Int.natCast_ediv, Int.toNat_of_nonneg hx, Int.toNat_of_nonneg h4]
  norm_cast
theorem aw_iushrZ {g : GX} {M : MI} {d pc : Nat} {lv : List (Nat × Value)} {st : List Value} {V : AH} {sz : Nat} {Q : AQ} {x y : Int} (n : Nat) (hd : decode M.2.1 pc = .ok (.iushr, 1)) (hy : y = (n : Int)) (hn : n < 32) (hx : 0 ≤ x) (h2 : x < 2147483648) (k : AW g M d (pc + 1) lv (.int (iZ (x / 2 ^ n)) :: st) V sz Q) : AW g M d pc lv (.int (iZ y) :: .int (iZ x) :: st) V sz Q := aw_iushr hd (by rw [hy, iZ_ushr hx h2 hn]; exact k)
theorem dv_dv (x : Int) (s t : Nat) : x / 2 ^ s / 2 ^ t = x / 2 ^ (s + t) := by
  rw [Int.pow_add, Int.ediv_ediv_of_nonneg (by exact_mod_cast Nat.le_of_lt (Nat.two_pow_pos s))]
theorem dv_lt {x y : Int} {s t : Nat} (h : y = x / 2 ^ s) (hl : y < 2 ^ t) : x < 2 ^ (s + t) := by
  have hp : (0 : Int) < 2 ^ s := by exact_mod_cast Nat.two_pow_pos s
  subst h
  rw [Int.pow_add, Int.mul_comm]
  exact (Int.ediv_lt_iff_lt_mul hp).mp hl
theorem dv_ge {x y : Int} {s : Nat} {t : Nat} (h : y = x / 2 ^ s) (hl : 2 ^ t ≤ y) : 2 ^ (s + t) ≤ x := by
  have hp : (0 : Int) < 2 ^ s := by exact_mod_cast Nat.two_pow_pos s
  subst h
  rw [Int.pow_add, Int.mul_comm]
  exact (Int.le_ediv_iff_mul_le hp).mp hl
/-- how far a number's top bit is from the 32nd -/
def NLZ (V : AH) (sz : Nat) (x : Int) : AQ := fun r V' sz' mc ms => (∃ k : Nat, 1 ≤ k ∧ k ≤ 31 ∧ some (.int (iZ k)) = r ∧ 2 ^ (31 - k) ≤ x ∧ x < 2 ^ (32 - k)) ∧ V = V' ∧ sz = sz' ∧ 0 = mc ∧ 0 = ms
abbrev mJ6_numberOfLeadingZeros_0f7a4 : MI := (yJ6_numberOfLeadingZeros_0f7a4, cJ6_numberOfLeadingZeros_0f7a4, 2, (some FieldType.int), noX)
theorem dJ6_numberOfLeadingZeros_0f7a4_0 : decode cJ6_numberOfLeadingZeros_0f7a4 0 = .ok (.iload_n 0, 1) := by decide +kernel
theorem dJ6_numberOfLeadingZeros_0f7a4_1 : decode cJ6_numberOfLeadingZeros_0f7a4 1 = .ok (.ifCond .gt 14, 3) := by decide +kernel
theorem dJ6_numberOfLeadingZeros_0f7a4_4 : decode cJ6_numberOfLeadingZeros_0f7a4 4 = .ok (.iload_n 0, 1) := by decide +kernel
theorem dJ6_numberOfLeadingZeros_0f7a4_5 : decode cJ6_numberOfLeadingZeros_0f7a4 5 = .ok (.ifCond .ne 8, 3) := by decide +kernel
theorem dJ6_numberOfLeadingZeros_0f7a4_8 : decode cJ6_numberOfLeadingZeros_0f7a4 8 = .ok (.bipush 32, 2) := by decide +kernel
theorem dJ6_numberOfLeadingZeros_0f7a4_10 : decode cJ6_numberOfLeadingZeros_0f7a4 10 = .ok (.goto 4, 3) := by decide +kernel
theorem dJ6_numberOfLeadingZeros_0f7a4_13 : decode cJ6_numberOfLeadingZeros_0f7a4 13 = .ok (.iconst 0, 1) := by decide +kernel
theorem dJ6_numberOfLeadingZeros_0f7a4_14 : decode cJ6_numberOfLeadingZeros_0f7a4 14 = .ok (.ireturn, 1) := by decide +kernel
theorem dJ6_numberOfLeadingZeros_0f7a4_15 : decode cJ6_numberOfLeadingZeros_0f7a4 15 = .ok (.bipush 31, 2) := by decide +kernel
theorem dJ6_numberOfLeadingZeros_0f7a4_17 : decode cJ6_numberOfLeadingZeros_0f7a4 17 = .ok (.istore_n 1, 1) := by decide +kernel
theorem dJ6_numberOfLeadingZeros_0f7a4_18 : decode cJ6_numberOfLeadingZeros_0f7a4 18 = .ok (.iload_n 0, 1) := by decide +kernel
theorem dJ6_numberOfLeadingZeros_0f7a4_19 : decode cJ6_numberOfLeadingZeros_0f7a4 19 = .ok (.ldc_w 264, 3) := by decide +kernel
theorem dJ6_numberOfLeadingZeros_0f7a4_22 : decode cJ6_numberOfLeadingZeros_0f7a4 22 = .ok (.if_icmp .lt 11, 3) := by decide +kernel
theorem dJ6_numberOfLeadingZeros_0f7a4_25 : decode cJ6_numberOfLeadingZeros_0f7a4 25 = .ok (.iinc 1 (-16), 3) := by decide +kernel
theorem dJ6_numberOfLeadingZeros_0f7a4_28 : decode cJ6_numberOfLeadingZeros_0f7a4 28 = .ok (.iload_n 0, 1) := by decide +kernel
theorem dJ6_numberOfLeadingZeros_0f7a4_29 : decode cJ6_numberOfLeadingZeros_0f7a4 29 = .ok (.bipush 16, 2) := by decide +kernel
theorem dJ6_numberOfLeadingZeros_0f7a4_31 : decode cJ6_numberOfLeadingZeros_0f7a4 31 = .ok (.iushr, 1) := by decide +kernel
theorem dJ6_numberOfLeadingZeros_0f7a4_32 : decode cJ6_numberOfLeadingZeros_0f7a4 32 = .ok (.istore_n 0, 1) := by decide +kernel
theorem dJ6_numberOfLeadingZeros_0f7a4_33 : decode cJ6_numberOfLeadingZeros_0f7a4 33 = .ok (.iload_n 0, 1) := by decide +kernel
theorem dJ6_numberOfLeadingZeros_0f7a4_34 : decode cJ6_numberOfLeadingZeros_0f7a4 34 = .ok (.sipush 256, 3) := by decide +kernel
theorem dJ6_numberOfLeadingZeros_0f7a4_37 : decode cJ6_numberOfLeadingZeros_0f7a4 37 = .ok (.if_icmp .lt 11, 3) := by decide +kernel
theorem dJ6_numberOfLeadingZeros_0f7a4_40 : decode cJ6_numberOfLeadingZeros_0f7a4 40 = .ok (.iinc 1 (-8), 3) := by decide +kernel
theorem dJ6_numberOfLeadingZeros_0f7a4_43 : decode cJ6_numberOfLeadingZeros_0f7a4 43 = .ok (.iload_n 0, 1) := by decide +kernel
theorem dJ6_numberOfLeadingZeros_0f7a4_44 : decode cJ6_numberOfLeadingZeros_0f7a4 44 = .ok (.bipush 8, 2) := by decide +kernel
theorem dJ6_numberOfLeadingZeros_0f7a4_46 : decode cJ6_numberOfLeadingZeros_0f7a4 46 = .ok (.iushr, 1) := by decide +kernel
theorem dJ6_numberOfLeadingZeros_0f7a4_47 : decode cJ6_numberOfLeadingZeros_0f7a4 47 = .ok (.istore_n 0, 1) := by decide +kernel
theorem dJ6_numberOfLeadingZeros_0f7a4_48 : decode cJ6_numberOfLeadingZeros_0f7a4 48 = .ok (.iload_n 0, 1) := by decide +kernel
theorem dJ6_numberOfLeadingZeros_0f7a4_49 : decode cJ6_numberOfLeadingZeros_0f7a4 49 = .ok (.bipush 16, 2) := by decide +kernel
theorem dJ6_numberOfLeadingZeros_0f7a4_51 : decode cJ6_numberOfLeadingZeros_0f7a4 51 = .ok (.if_icmp .lt 10, 3) := by decide +kernel
theorem dJ6_numberOfLeadingZeros_0f7a4_54 : decode cJ6_numberOfLeadingZeros_0f7a4 54 = .ok (.iinc 1 (-4), 3) := by decide +kernel
theorem dJ6_numberOfLeadingZeros_0f7a4_57 : decode cJ6_numberOfLeadingZeros_0f7a4 57 = .ok (.iload_n 0, 1) := by decide +kernel
theorem dJ6_numberOfLeadingZeros_0f7a4_58 : decode cJ6_numberOfLeadingZeros_0f7a4 58 = .ok (.iconst 4, 1) := by decide +kernel
theorem dJ6_numberOfLeadingZeros_0f7a4_59 : decode cJ6_numberOfLeadingZeros_0f7a4 59 = .ok (.iushr, 1) := by decide +kernel
theorem dJ6_numberOfLeadingZeros_0f7a4_60 : decode cJ6_numberOfLeadingZeros_0f7a4 60 = .ok (.istore_n 0, 1) := by decide +kernel
theorem dJ6_numberOfLeadingZeros_0f7a4_61 : decode cJ6_numberOfLeadingZeros_0f7a4 61 = .ok (.iload_n 0, 1) := by decide +kernel
theorem dJ6_numberOfLeadingZeros_0f7a4_62 : decode cJ6_numberOfLeadingZeros_0f7a4 62 = .ok (.iconst 4, 1) := by decide +kernel
theorem dJ6_numberOfLeadingZeros_0f7a4_63 : decode cJ6_numberOfLeadingZeros_0f7a4 63 = .ok (.if_icmp .lt 10, 3) := by decide +kernel
theorem dJ6_numberOfLeadingZeros_0f7a4_66 : decode cJ6_numberOfLeadingZeros_0f7a4 66 = .ok (.iinc 1 (-2), 3) := by decide +kernel
theorem dJ6_numberOfLeadingZeros_0f7a4_69 : decode cJ6_numberOfLeadingZeros_0f7a4 69 = .ok (.iload_n 0, 1) := by decide +kernel
theorem dJ6_numberOfLeadingZeros_0f7a4_70 : decode cJ6_numberOfLeadingZeros_0f7a4 70 = .ok (.iconst 2, 1) := by decide +kernel
theorem dJ6_numberOfLeadingZeros_0f7a4_71 : decode cJ6_numberOfLeadingZeros_0f7a4 71 = .ok (.iushr, 1) := by decide +kernel
theorem dJ6_numberOfLeadingZeros_0f7a4_72 : decode cJ6_numberOfLeadingZeros_0f7a4 72 = .ok (.istore_n 0, 1) := by decide +kernel
theorem dJ6_numberOfLeadingZeros_0f7a4_73 : decode cJ6_numberOfLeadingZeros_0f7a4 73 = .ok (.iload_n 1, 1) := by decide +kernel
theorem dJ6_numberOfLeadingZeros_0f7a4_74 : decode cJ6_numberOfLeadingZeros_0f7a4 74 = .ok (.iload_n 0, 1) := by decide +kernel
theorem dJ6_numberOfLeadingZeros_0f7a4_75 : decode cJ6_numberOfLeadingZeros_0f7a4 75 = .ok (.iconst 1, 1) := by decide +kernel
theorem dJ6_numberOfLeadingZeros_0f7a4_76 : decode cJ6_numberOfLeadingZeros_0f7a4 76 = .ok (.iushr, 1) := by decide +kernel
theorem dJ6_numberOfLeadingZeros_0f7a4_77 : decode cJ6_numberOfLeadingZeros_0f7a4 77 = .ok (.isub, 1) := by decide +kernel
theorem dJ6_numberOfLeadingZeros_0f7a4_78 : decode cJ6_numberOfLeadingZeros_0f7a4 78 = .ok (.ireturn, 1) := by decide +kernel
theorem nlz_end (g : GX) (d : Nat) {V : AH} {sz : Nat} {x y : Int} {t : Nat} (hy : y = x / 2 ^ t) (h1 : 1 ≤ y) (h2 : y < 4) (ht : t ≤ 30) (hx : x < 2147483648) : AW g mJ6_numberOfLeadingZeros_0f7a4 d 73 [(0, .int (iZ y)), (1, .int (iZ (31 - t)))] [] V sz (NLZ V sz x) := by
  refine aw_iload_n dJ6_numberOfLeadingZeros_0f7a4_73 (by rfl) ?_
  refine aw_iload_n dJ6_numberOfLeadingZeros_0f7a4_74 (by rfl) ?_
  refine aw_iconstZ dJ6_numberOfLeadingZeros_0f7a4_75 ?_
  refine aw_iushrZ 1 dJ6_numberOfLeadingZeros_0f7a4_76 (by rfl) (by decide) (by omega) (by omega) ?_
  refine aw_isubZ dJ6_numberOfLeadingZeros_0f7a4_77 ?_
  refine aw_iret dJ6_numberOfLeadingZeros_0f7a4_78 rfl (by rfl) ?_
  refine ⟨?_, rfl, rfl, rfl, rfl⟩
  have e1 : (2 : Int) ^ 1 = 2 := by decide
  have hge := dv_ge (t := 0) hy (by simpa using h1)
  by_cases hq : y < 2
  · have hlt := dv_lt (t := 1) hy (by rw [e1]; exact hq)
    refine ⟨31 - t, by omega, by omega, ?_, ?_, ?_⟩
    · rw [e1, show y / 2 = 0 by omega]; congr 3; omega
    · rw [show 31 - (31 - t) = t + 0 by omega]; exact hge
    · rw [show 32 - (31 - t) = t + 1 by omega]; exact hlt
  · have hlt := dv_lt (t := 2) hy (by rw [show (2 : Int) ^ 2 = 4 by decide]; exact h2)
    have hge2 := dv_ge (t := 1) hy (by rw [e1]; omega)
    have ht2 : t ≤ 29 := by
      rcases Nat.lt_or_ge t 30 with h | h
      · omega
      · obtain rfl : t = 30 := by omega
        have e31 : (2 : Int) ^ (30 + 1) = 2147483648 := by decide
        rw [e31] at hge2
        omega
    refine ⟨30 - t, by omega, by omega, ?_, ?_, ?_⟩
    · rw [e1, show y / 2 = 1 by omega]; congr 3; omega
    · rw [show 31 - (30 - t) = t + 1 by omega]; exact hge2
    · rw [show 32 - (30 - t) = t + 2 by omega]; exact hlt
theorem nlz_61 (g : GX) (d : Nat) {V : AH} {sz : Nat} {x y : Int} {t : Nat} (hy : y = x / 2 ^ t) (h1 : 1 ≤ y) (h2 : y < 16) (ht : t ≤ 28) (hx : x < 2147483648) : AW g mJ6_numberOfLeadingZeros_0f7a4 d 61 [(0, .int (iZ y)), (1, .int (iZ (31 - t)))] [] V sz (NLZ V sz x) := by
  refine aw_iload_n dJ6_numberOfLeadingZeros_0f7a4_61 (by rfl) ?_
  refine aw_iconstZ dJ6_numberOfLeadingZeros_0f7a4_62 ?_
  refine aw_icmp_ltZ (tgt := 73) dJ6_numberOfLeadingZeros_0f7a4_63 (by decide) (by omega) (by omega) (fun hc_63 => ?_) (fun hc_63 => ?_)
  · first
    | exact aw_pk [0, 1] (by rfl) (nlz_end g d hy (by omega) (by omega) (by omega) hx)
    | (refine aw_pk [0, 1] (lv' := [(0, .int (iZ (y / 2 ^ 2))), (1, .int (iZ (31 - t + -2)))]) (by rfl) ?_
       rw [show (31 : Int) - t + -2 = 31 - ((t + 2 : Nat) : Int) by omega]
       have ek : (2 : Int) ^ 2 = 4 := by decide
       exact nlz_end g d (by rw [hy]; exact dv_dv x t 2) (by rw [ek]; omega) (by rw [ek]; omega) (by omega) hx)
  · refine aw_iincZ dJ6_numberOfLeadingZeros_0f7a4_66 (by rfl) (by decide) ?_
    refine aw_iload_n dJ6_numberOfLeadingZeros_0f7a4_69 (by rfl) ?_
    refine aw_iconstZ dJ6_numberOfLeadingZeros_0f7a4_70 ?_
    refine aw_iushrZ 2 dJ6_numberOfLeadingZeros_0f7a4_71 (by rfl) (by decide) (by omega) (by omega) ?_
    refine aw_istore_n dJ6_numberOfLeadingZeros_0f7a4_72 (by decide) ?_
    first
    | exact aw_pk [0, 1] (by rfl) (nlz_end g d hy (by omega) (by omega) (by omega) hx)
    | (refine aw_pk [0, 1] (lv' := [(0, .int (iZ (y / 2 ^ 2))), (1, .int (iZ (31 - t + -2)))]) (by rfl) ?_
       rw [show (31 : Int) - t + -2 = 31 - ((t + 2 : Nat) : Int) by omega]
       have ek : (2 : Int) ^ 2 = 4 := by decide
       exact nlz_end g d (by rw [hy]; exact dv_dv x t 2) (by rw [ek]; omega) (by rw [ek]; omega) (by omega) hx)
theorem nlz_48 (g : GX) (d : Nat) {V : AH} {sz : Nat} {x y : Int} {t : Nat} (hy : y = x / 2 ^ t) (h1 : 1 ≤ y) (h2 : y < 256) (ht : t ≤ 24) (hx : x < 2147483648) : AW g mJ6_numberOfLeadingZeros_0f7a4 d 48 [(0, .int (iZ y)), (1, .int (iZ (31 - t)))] [] V sz (NLZ V sz x) := by
  refine aw_iload_n dJ6_numberOfLeadingZeros_0f7a4_48 (by rfl) ?_
  refine aw_bipushZ dJ6_numberOfLeadingZeros_0f7a4_49 (by decide) ?_
  refine aw_icmp_ltZ (tgt := 61) dJ6_numberOfLeadingZeros_0f7a4_51 (by decide) (by omega) (by omega) (fun hc_51 => ?_) (fun hc_51 => ?_)
  · first
    | exact aw_pk [0, 1] (by rfl) (nlz_61 g d hy (by omega) (by omega) (by omega) hx)
    | (refine aw_pk [0, 1] (lv' := [(0, .int (iZ (y / 2 ^ 4))), (1, .int (iZ (31 - t + -4)))]) (by rfl) ?_
       rw [show (31 : Int) - t + -4 = 31 - ((t + 4 : Nat) : Int) by omega]
       have ek : (2 : Int) ^ 4 = 16 := by decide
       exact nlz_61 g d (by rw [hy]; exact dv_dv x t 4) (by rw [ek]; omega) (by rw [ek]; omega) (by omega) hx)
  · refine aw_iincZ dJ6_numberOfLeadingZeros_0f7a4_54 (by rfl) (by decide) ?_
    refine aw_iload_n dJ6_numberOfLeadingZeros_0f7a4_57 (by rfl) ?_
    refine aw_iconstZ dJ6_numberOfLeadingZeros_0f7a4_58 ?_
    refine aw_iushrZ 4 dJ6_numberOfLeadingZeros_0f7a4_59 (by rfl) (by decide) (by omega) (by omega) ?_
    refine aw_istore_n dJ6_numberOfLeadingZeros_0f7a4_60 (by decide) ?_
    first
    | exact aw_pk [0, 1] (by rfl) (nlz_61 g d hy (by omega) (by omega) (by omega) hx)
    | (refine aw_pk [0, 1] (lv' := [(0, .int (iZ (y / 2 ^ 4))), (1, .int (iZ (31 - t + -4)))]) (by rfl) ?_
       rw [show (31 : Int) - t + -4 = 31 - ((t + 4 : Nat) : Int) by omega]
       have ek : (2 : Int) ^ 4 = 16 := by decide
       exact nlz_61 g d (by rw [hy]; exact dv_dv x t 4) (by rw [ek]; omega) (by rw [ek]; omega) (by omega) hx)
theorem nlz_33 (g : GX) (d : Nat) {V : AH} {sz : Nat} {x y : Int} {t : Nat} (hy : y = x / 2 ^ t) (h1 : 1 ≤ y) (h2 : y < 65536) (ht : t ≤ 16) (hx : x < 2147483648) : AW g mJ6_numberOfLeadingZeros_0f7a4 d 33 [(0, .int (iZ y)), (1, .int (iZ (31 - t)))] [] V sz (NLZ V sz x) := by
  refine aw_iload_n dJ6_numberOfLeadingZeros_0f7a4_33 (by rfl) ?_
  refine aw_sipushZ dJ6_numberOfLeadingZeros_0f7a4_34 (by decide) ?_
  refine aw_icmp_ltZ (tgt := 48) dJ6_numberOfLeadingZeros_0f7a4_37 (by decide) (by omega) (by omega) (fun hc_37 => ?_) (fun hc_37 => ?_)
  · first
    | exact aw_pk [0, 1] (by rfl) (nlz_48 g d hy (by omega) (by omega) (by omega) hx)
    | (refine aw_pk [0, 1] (lv' := [(0, .int (iZ (y / 2 ^ 8))), (1, .int (iZ (31 - t + -8)))]) (by rfl) ?_
       rw [show (31 : Int) - t + -8 = 31 - ((t + 8 : Nat) : Int) by omega]
       have ek : (2 : Int) ^ 8 = 256 := by decide
       exact nlz_48 g d (by rw [hy]; exact dv_dv x t 8) (by rw [ek]; omega) (by rw [ek]; omega) (by omega) hx)
  · refine aw_iincZ dJ6_numberOfLeadingZeros_0f7a4_40 (by rfl) (by decide) ?_
    refine aw_iload_n dJ6_numberOfLeadingZeros_0f7a4_43 (by rfl) ?_
    refine aw_bipushZ dJ6_numberOfLeadingZeros_0f7a4_44 (by decide) ?_
    refine aw_iushrZ 8 dJ6_numberOfLeadingZeros_0f7a4_46 (by rfl) (by decide) (by omega) (by omega) ?_
    refine aw_istore_n dJ6_numberOfLeadingZeros_0f7a4_47 (by decide) ?_
    first
    | exact aw_pk [0, 1] (by rfl) (nlz_48 g d hy (by omega) (by omega) (by omega) hx)
    | (refine aw_pk [0, 1] (lv' := [(0, .int (iZ (y / 2 ^ 8))), (1, .int (iZ (31 - t + -8)))]) (by rfl) ?_
       rw [show (31 : Int) - t + -8 = 31 - ((t + 8 : Nat) : Int) by omega]
       have ek : (2 : Int) ^ 8 = 256 := by decide
       exact nlz_48 g d (by rw [hy]; exact dv_dv x t 8) (by rw [ek]; omega) (by rw [ek]; omega) (by omega) hx)
theorem nlz_18 (g : GX) (d : Nat) {V : AH} {sz : Nat} {x y : Int} {t : Nat} (hy : y = x / 2 ^ t) (h1 : 1 ≤ y) (h2 : y < 2147483648) (ht : t ≤ 0) (hx : x < 2147483648) : AW g mJ6_numberOfLeadingZeros_0f7a4 d 18 [(0, .int (iZ y)), (1, .int (iZ (31 - t)))] [] V sz (NLZ V sz x) := by
  refine aw_iload_n dJ6_numberOfLeadingZeros_0f7a4_18 (by rfl) ?_
  refine aw_ldcwZ (z := 65536) qJ6_264 dJ6_numberOfLeadingZeros_0f7a4_19 (by decide) ?_
  refine aw_icmp_ltZ (tgt := 33) dJ6_numberOfLeadingZeros_0f7a4_22 (by decide) (by omega) (by omega) (fun hc_22 => ?_) (fun hc_22 => ?_)
  · first
    | exact aw_pk [0, 1] (by rfl) (nlz_33 g d hy (by omega) (by omega) (by omega) hx)
    | (refine aw_pk [0, 1] (lv' := [(0, .int (iZ (y / 2 ^ 16))), (1, .int (iZ (31 - t + -16)))]) (by rfl) ?_
       rw [show (31 : Int) - t + -16 = 31 - ((t + 16 : Nat) : Int) by omega]
       have ek : (2 : Int) ^ 16 = 65536 := by decide
       exact nlz_33 g d (by rw [hy]; exact dv_dv x t 16) (by rw [ek]; omega) (by rw [ek]; omega) (by omega) hx)
  · refine aw_iincZ dJ6_numberOfLeadingZeros_0f7a4_25 (by rfl) (by decide) ?_
    refine aw_iload_n dJ6_numberOfLeadingZeros_0f7a4_28 (by rfl) ?_
    refine aw_bipushZ dJ6_numberOfLeadingZeros_0f7a4_29 (by decide) ?_
    refine aw_iushrZ 16 dJ6_numberOfLeadingZeros_0f7a4_31 (by rfl) (by decide) (by omega) (by omega) ?_
    refine aw_istore_n dJ6_numberOfLeadingZeros_0f7a4_32 (by decide) ?_
    first
    | exact aw_pk [0, 1] (by rfl) (nlz_33 g d hy (by omega) (by omega) (by omega) hx)
    | (refine aw_pk [0, 1] (lv' := [(0, .int (iZ (y / 2 ^ 16))), (1, .int (iZ (31 - t + -16)))]) (by rfl) ?_
       rw [show (31 : Int) - t + -16 = 31 - ((t + 16 : Nat) : Int) by omega]
       have ek : (2 : Int) ^ 16 = 65536 := by decide
       exact nlz_33 g d (by rw [hy]; exact dv_dv x t 16) (by rw [ek]; omega) (by rw [ek]; omega) (by omega) hx)
theorem t_nlz (g : GX) (d : Nat) {V : AH} {sz : Nat} {x : Int} (h1 : 0 < x) (hx : x < 2147483648) : AMet g mJ6_numberOfLeadingZeros_0f7a4 d [.int (iZ x)] V sz (NLZ V sz x) := by
  refine AMet.of rfl rfl (Nat.le_of_ble_eq_true rfl) ?_
  show AW g mJ6_numberOfLeadingZeros_0f7a4 d 0 [(0, .int (iZ x))] [] V sz _
  refine aw_iload_n dJ6_numberOfLeadingZeros_0f7a4_0 (by rfl) ?_
  refine aw_if_gtZ (tgt := 15) dJ6_numberOfLeadingZeros_0f7a4_1 (by decide) (by omega) (fun hc_1 => ?_) (fun hc_1 => ?_)
  · refine aw_bipushZ dJ6_numberOfLeadingZeros_0f7a4_15 (by decide) ?_
    refine aw_istore_n dJ6_numberOfLeadingZeros_0f7a4_17 (by decide) ?_
    exact aw_pk [0, 1] (by rfl) (nlz_18 g d (t := 0) (by simp) (by omega) (by omega) (by omega) hx)
  · exact absurd h1 hc_1
abbrev mX4_shifted : MI := (yX4_shifted, cX4_shifted, 9, none, noX)
theorem dX4_shifted_0 : decode cX4_shifted 0 = .ok (.lconst 0, 1) := by decide +kernel
theorem dX4_shifted_1 : decode cX4_shifted 1 = .ok (.lstore 4, 2) := by decide +kernel
theorem dX4_shifted_3 : decode cX4_shifted 3 = .ok (.iconst 0, 1) := by decide +kernel
theorem dX4_shifted_4 : decode cX4_shifted 4 = .ok (.istore 6, 2) := by decide +kernel
theorem dX4_shifted_6 : decode cX4_shifted 6 = .ok (.iload 6, 2) := by decide +kernel
theorem dX4_shifted_8 : decode cX4_shifted 8 = .ok (.iload_n 3, 1) := by decide +kernel
theorem dX4_shifted_9 : decode cX4_shifted 9 = .ok (.if_icmp .ge 62, 3) := by decide +kernel
theorem dX4_shifted_12 : decode cX4_shifted 12 = .ok (.iload 6, 2) := by decide +kernel
theorem dX4_shifted_14 : decode cX4_shifted 14 = .ok (.aload_n 1, 1) := by decide +kernel
theorem dX4_shifted_15 : decode cX4_shifted 15 = .ok (.getfield 15, 3) := by decide +kernel
theorem dX4_shifted_18 : decode cX4_shifted 18 = .ok (.if_icmp .ge 14, 3) := by decide +kernel
theorem dX4_shifted_21 : decode cX4_shifted 21 = .ok (.aload_n 1, 1) := by decide +kernel
theorem dX4_shifted_22 : decode cX4_shifted 22 = .ok (.getfield 18, 3) := by decide +kernel
theorem dX4_shifted_25 : decode cX4_shifted 25 = .ok (.iload 6, 2) := by decide +kernel
theorem dX4_shifted_27 : decode cX4_shifted 27 = .ok (.iaload, 1) := by decide +kernel
theorem dX4_shifted_28 : decode cX4_shifted 28 = .ok (.i2l, 1) := by decide +kernel
theorem dX4_shifted_29 : decode cX4_shifted 29 = .ok (.goto 4, 3) := by decide +kernel
theorem dX4_shifted_32 : decode cX4_shifted 32 = .ok (.lconst 0, 1) := by decide +kernel
theorem dX4_shifted_33 : decode cX4_shifted 33 = .ok (.lstore 7, 2) := by decide +kernel
theorem dX4_shifted_35 : decode cX4_shifted 35 = .ok (.lload 4, 2) := by decide +kernel
theorem dX4_shifted_37 : decode cX4_shifted 37 = .ok (.lload 7, 2) := by decide +kernel
theorem dX4_shifted_39 : decode cX4_shifted 39 = .ok (.iload_n 2, 1) := by decide +kernel
theorem dX4_shifted_40 : decode cX4_shifted 40 = .ok (.lshl, 1) := by decide +kernel
theorem dX4_shifted_41 : decode cX4_shifted 41 = .ok (.ladd, 1) := by decide +kernel
theorem dX4_shifted_42 : decode cX4_shifted 42 = .ok (.lstore 4, 2) := by decide +kernel
theorem dX4_shifted_44 : decode cX4_shifted 44 = .ok (.aload_n 0, 1) := by decide +kernel
theorem dX4_shifted_45 : decode cX4_shifted 45 = .ok (.getfield 18, 3) := by decide +kernel
theorem dX4_shifted_48 : decode cX4_shifted 48 = .ok (.iload 6, 2) := by decide +kernel
theorem dX4_shifted_50 : decode cX4_shifted 50 = .ok (.lload 4, 2) := by decide +kernel
theorem dX4_shifted_52 : decode cX4_shifted 52 = .ok (.ldc2_w 34, 3) := by decide +kernel
theorem dX4_shifted_55 : decode cX4_shifted 55 = .ok (.land, 1) := by decide +kernel
theorem dX4_shifted_56 : decode cX4_shifted 56 = .ok (.l2i, 1) := by decide +kernel
theorem dX4_shifted_57 : decode cX4_shifted 57 = .ok (.iastore, 1) := by decide +kernel
theorem dX4_shifted_58 : decode cX4_shifted 58 = .ok (.lload 4, 2) := by decide +kernel
theorem dX4_shifted_60 : decode cX4_shifted 60 = .ok (.bipush 31, 2) := by decide +kernel
theorem dX4_shifted_62 : decode cX4_shifted 62 = .ok (.lshr, 1) := by decide +kernel
theorem dX4_shifted_63 : decode cX4_shifted 63 = .ok (.lstore 4, 2) := by decide +kernel
theorem dX4_shifted_65 : decode cX4_shifted 65 = .ok (.iinc 6 1, 3) := by decide +kernel
theorem dX4_shifted_68 : decode cX4_shifted 68 = .ok (.goto (-62), 3) := by decide +kernel
theorem dX4_shifted_71 : decode cX4_shifted 71 = .ok (.return_, 1) := by decide +kernel
theorem sh_arith {F A : Nat → Int} {c : Int} {k sh : Nat} (hsh : sh ≤ 30) (hinv : mg 2147483648 F k + c * 2147483648 ^ k = mg 2147483648 A k * 2 ^ sh) (hc : 0 ≤ c ∧ c < 2 ^ sh) (hA : 0 ≤ A k ∧ A k < 2147483648) : (0 ≤ A k * 2 ^ sh ∧ A k * 2 ^ sh < 4611686018427387904) ∧ (0 ≤ c + A k * 2 ^ sh ∧ c + A k * 2 ^ sh < 4611686018427387904) ∧ 0 ≤ (c + A k * 2 ^ sh) % 2147483648 ∧ (c + A k * 2 ^ sh) % 2147483648 < 2147483648 ∧ (0 ≤ (c + A k * 2 ^ sh) / 2147483648 ∧ (c + A k * 2 ^ sh) / 2147483648 < 2 ^ sh) ∧ mg 2147483648 (upF F k ((c + A k * 2 ^ sh) % 2147483648)) (k + 1) + (c + A k * 2 ^ sh) / 2147483648 * 2147483648 ^ (k + 1) = mg 2147483648 A (k + 1) * 2 ^ sh := by
  have hp : (0 : Int) < 2 ^ sh := by exact_mod_cast Nat.two_pow_pos sh
  have hp2 : (2 : Int) ^ sh ≤ 1073741824 := by
    have := pw_le (show (1 : Int) ≤ 2 by omega) hsh
    rw [show (2 : Int) ^ 30 = 1073741824 by decide] at this
    exact this
  have h1 : 0 ≤ A k * 2 ^ sh := Int.mul_nonneg hA.1 (by omega)
  have h2 : (A k + 1) * 2 ^ sh ≤ 2147483648 * 2 ^ sh := Int.mul_le_mul_of_nonneg_right (by omega) (by omega)
  rw [Int.add_mul, Int.one_mul] at h2
  have hmd := Int.emod_add_mul_ediv (c + A k * 2 ^ sh) 2147483648
  have e0 : mg 2147483648 A (k + 1) * 2 ^ sh = mg 2147483648 A k * 2 ^ sh + A k * 2 ^ sh * 2147483648 ^ k := by
    simp only [mg]
    rw [Int.add_mul, Int.mul_assoc, Int.mul_comm (2147483648 ^ k) (2 ^ sh), ← Int.mul_assoc]
  rw [e0]
  generalize A k * 2 ^ sh = e at h1 h2 hmd ⊢
  generalize (2 : Int) ^ sh = P2 at *
  refine ⟨by omega, by omega, by omega, by omega, by omega, ?_⟩
  simp only [mg]
  rw [mg_upF, upF_self, Int.pow_succ]
  generalize (2147483648 : Int) ^ k = P at hinv ⊢
  generalize hq : (c + e) / 2147483648 = q at hmd ⊢
  generalize hr : (c + e) % 2147483648 = r at hmd ⊢
  have e2 : q * (P * 2147483648) = 2147483648 * q * P := by
    rw [Int.mul_comm P 2147483648, ← Int.mul_assoc, Int.mul_comm q 2147483648]
  have e3 : (r + 2147483648 * q) * P = (c + e) * P := by rw [hmd]
  rw [Int.add_mul, Int.add_mul] at e3
  rw [e2]
  omega
/-- behind shifted: the limbs and what is carried out at the top -/
def SHP (g : GX) (V0 : AH) (sz0 w : Nat) (s : Int) (n p L len sh : Nat) (A : Nat → Int) : AQ := fun r V' sz' mc ms => none = r ∧ ∃ (F : Nat → Int) (c : Int), Whl g V' w s n p L F ∧ mg 2147483648 F len + c * 2147483648 ^ len = mg 2147483648 A len * 2 ^ sh ∧ (0 ≤ c ∧ c < 2 ^ sh) ∧ Fr V0 sz0 V' w p ∧ DL V' sz' ∧ sz0 = sz' ∧ 0 = mc ∧ 0 = ms
theorem shifted_loop (g : GX) (d : Nat) {V0 : AH} {sz w u p q L K len nu n sh : Nat} {s t : Int} {G A : Nat → Int} (hpu : u ≠ p) (hpq : q ≠ p) (hlen : len ≤ L) (hsh : sh ≤ 30) (hA : ∀ j, 0 ≤ A j ∧ A j < 2147483648) (hAd : A = pad G nu) : ∀ (i k : Nat), k + i = len → ∀ {V : AH} {F : Nat → Int} {c : Int}, Whl g V w s n p L F → Whl g V u t nu q K G → mg 2147483648 F k + c * 2147483648 ^ k = mg 2147483648 A k * 2 ^ sh → (0 ≤ c ∧ c < 2 ^ sh) → Fr V0 sz V w p → DL V sz → AW g mX4_shifted d 6 [(6, .int (iZ k)), (4, .long (jZ c)), (0, .ref w), (1, .ref u), (2, .int (iZ sh)), (3, .int (iZ len))] [] V sz (SHP g V0 sz w s n p L len sh A)
  | 0, k, hi, V, F, c, hW, hU, hinv, hc, hfr, hD => by
    obtain rfl : len = k := by omega
    obtain ⟨hw, hp, hwp, hn, h4, hL, hF⟩ := id hW
    refine aw_iload dX4_shifted_6 (by rfl) ?_
    refine aw_iload_n dX4_shifted_8 (by rfl) ?_
    refine aw_icmp_geZ (tgt := 71) dX4_shifted_9 (by decide) (by omega) (by omega) (fun hc_9 => ?_) (fun hc_9 => ?_)
    · refine aw_ret dX4_shifted_71 rfl ?_
      exact ⟨rfl, F, c, hW, hinv, hc, hfr, hD, rfl, rfl, rfl⟩
    · exact absurd hc_9 (by omega)
  | i + 1, k, hi, V, F, c, hW, hU, hinv, hc, hfr, hD => by
    obtain ⟨hw, hp, hwp, hn, h4, hL, hF⟩ := id hW
    obtain ⟨hu, hq, huq, hm1, h4', hK', hG⟩ := id hU
    have e31 : (2 : Int) ^ 31 = 2147483648 := by decide
    have hAk := hA k
    have hA1 : k < nu → G k = A k := fun h => by rw [hAd]; simp [pad, h]
    have hA0 : nu ≤ k → 0 = A k := fun h => by rw [hAd]; simp [pad, show ¬ k < nu by omega]
    have hGk : k < nu → 0 ≤ G k ∧ G k < 2147483648 := fun h => hG k (by omega)
    obtain ⟨a1, a2, hm0, hm1', hc2, hinv'⟩ := sh_arith hsh hinv hc hAk
    have IH := shifted_loop g d hpu hpq hlen hsh hA hAd i (k + 1) (by omega) (hW.arr (upF_lim hF ⟨hm0, hm1'⟩)) (hU.kept (AHu_ne hpu) (AHu_ne hpq)) hinv' hc2 (hfr.upd (Or.inr (Or.inl rfl))) (hD.upd (hD.lt hp))
    clear hinv hinv' hc hc2 hfr hD
    have J33 : AW g mX4_shifted d 33 [(6, .int (iZ k)), (4, .long (jZ c)), (0, .ref w), (1, .ref u), (2, .int (iZ sh)), (3, .int (iZ len))] [.long (jZ (A k))] V sz (SHP g V0 sz w s n p L len sh A) := by
      refine aw_lstore dX4_shifted_33 (by decide) ?_
      refine aw_lload dX4_shifted_35 (by rfl) ?_
      refine aw_lload dX4_shifted_37 (by rfl) ?_
      refine aw_iload_n dX4_shifted_39 (by rfl) ?_
      refine aw_lshlZ sh dX4_shifted_40 (by rfl) (by omega) hAk.1 (by omega) ?_
      refine aw_laddZ dX4_shifted_41 ?_
      refine aw_topl (y := c + A k * 2 ^ sh) rfl ?_
      refine aw_lstore dX4_shifted_42 (by decide) ?_
      refine aw_aload_n dX4_shifted_44 (by rfl) (Or.inr ⟨_, rfl⟩) ?_
      refine aw_get fX4_18 dX4_shifted_45 (by assumption) (by rfl) ?_
      refine aw_iload dX4_shifted_48 (by rfl) ?_
      refine aw_lload dX4_shifted_50 (by rfl) ?_
      refine aw_ldc2Z (z := 2147483647) qX4_34 dX4_shifted_52 (by decide) ?_
      refine aw_landM 31 dX4_shifted_55 (by decide) (by decide) ?_
      refine aw_l2iZ dX4_shifted_56 ?_
      refine aw_iastZ (k) dX4_shifted_57 (by assumption) (by omega) (by omega) (by omega) ?_
      rw [e31]
      refine aw_lload dX4_shifted_58 (by rfl) ?_
      refine aw_bipushZ dX4_shifted_60 (by decide) ?_
      refine aw_lshrZ 31 dX4_shifted_62 (by rfl) (by decide) (by omega) ?_
      refine aw_lstore dX4_shifted_63 (by decide) ?_
      rw [e31]
      refine aw_iincZ dX4_shifted_65 (by rfl) (by decide) ?_
      refine aw_goto (tgt := 6) dX4_shifted_68 (by decide) ?_
      refine aw_pk [6, 4, 0, 1, 2, 3] (by rfl) ?_
      rw [show ((k : Int) + 1) = ((k + 1 : Nat) : Int) by omega]
      exact IH
    refine aw_iload dX4_shifted_6 (by rfl) ?_
    refine aw_iload_n dX4_shifted_8 (by rfl) ?_
    refine aw_icmp_geZ (tgt := 71) dX4_shifted_9 (by decide) (by omega) (by omega) (fun hc_9 => ?_) (fun hc_9 => ?_)
    · exact absurd hc_9 (by omega)
    · refine aw_iload dX4_shifted_12 (by rfl) ?_
      refine aw_aload_n dX4_shifted_14 (by rfl) (Or.inr ⟨_, rfl⟩) ?_
      refine aw_get fX4_15 dX4_shifted_15 (by assumption) (by rfl) ?_
      refine aw_icmp_geZ (tgt := 32) dX4_shifted_18 (by decide) (by omega) (by omega) (fun hc_18 => ?_) (fun hc_18 => ?_)
      · refine aw_lconstZ (z := 0) dX4_shifted_32 (by decide) ?_
        refine aw_topl (y := A k) (by first | exact hA1 (by omega) | exact hA0 (by omega)) ?_
        exact J33
      · refine aw_aload_n dX4_shifted_21 (by rfl) (Or.inr ⟨_, rfl⟩) ?_
        refine aw_get fX4_18 dX4_shifted_22 (by assumption) (by rfl) ?_
        refine aw_iload dX4_shifted_25 (by rfl) ?_
        refine aw_ialdZ (k) dX4_shifted_27 (by assumption) (by omega) (by omega) (by omega) ?_
        refine aw_i2lZ dX4_shifted_28 (by omega) ?_
        refine aw_goto (tgt := 33) dX4_shifted_29 (by decide) ?_
        refine aw_topl (y := A k) (by first | exact hA1 (by omega) | exact hA0 (by omega)) ?_
        exact J33
theorem t_shifted (g : GX) (d : Nat) {V : AH} {sz w u p q L K len nu n sh : Nat} {s t : Int} {F G : Nat → Int} (hW : Whl g V w s n p L F) (hU : Whl g V u t nu q K G) (hD : DL V sz) (hpu : u ≠ p) (hpq : q ≠ p) (hlen : len ≤ L) (hsh : sh ≤ 30) : AMet g mX4_shifted d [.ref w, .ref u, .int (iZ sh), .int (iZ len)] V sz (SHP g V sz w s n p L len sh (pad G nu)) := by
  refine AMet.of rfl rfl (Nat.le_of_ble_eq_true rfl) ?_
  show AW g mX4_shifted d 0 [(0, .ref w), (1, .ref u), (2, .int (iZ sh)), (3, .int (iZ len))] [] V sz _
  refine aw_lconstZ (z := 0) dX4_shifted_0 (by decide) ?_
  refine aw_lstore dX4_shifted_1 (by decide) ?_
  refine aw_iconstZ dX4_shifted_3 ?_
  refine aw_istore dX4_shifted_4 (by decide) ?_
  exact aw_pk [6, 4, 0, 1, 2, 3] (by rfl) (shifted_loop g d hpu hpq hlen hsh (pad_lim hU.2.2.2.1 hU.2.2.2.2.2.2) rfl len 0 (by omega) (c := 0) hW hU (by simp [mg]) ⟨by omega, by exact_mod_cast Nat.two_pow_pos sh⟩ Fr.rf hD)

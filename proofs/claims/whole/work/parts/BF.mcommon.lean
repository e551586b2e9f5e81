/-! ===== the reference: ones, common ===== -/
abbrev mX6_ones : MI := (yX6_ones, cX6_ones, 3, (some FieldType.int), noX)
theorem dX6_ones_0 : decode cX6_ones 0 = .ok (.iconst 0, 1) := by decide +kernel
theorem dX6_ones_1 : decode cX6_ones 1 = .ok (.istore_n 1, 1) := by decide +kernel
theorem dX6_ones_2 : decode cX6_ones 2 = .ok (.iconst 0, 1) := by decide +kernel
theorem dX6_ones_3 : decode cX6_ones 3 = .ok (.istore_n 2, 1) := by decide +kernel
theorem dX6_ones_4 : decode cX6_ones 4 = .ok (.iload_n 2, 1) := by decide +kernel
theorem dX6_ones_5 : decode cX6_ones 5 = .ok (.iconst 5, 1) := by decide +kernel
theorem dX6_ones_6 : decode cX6_ones 6 = .ok (.if_icmp .ge 17, 3) := by decide +kernel
theorem dX6_ones_9 : decode cX6_ones 9 = .ok (.iload_n 1, 1) := by decide +kernel
theorem dX6_ones_10 : decode cX6_ones 10 = .ok (.iload_n 0, 1) := by decide +kernel
theorem dX6_ones_11 : decode cX6_ones 11 = .ok (.iload_n 2, 1) := by decide +kernel
theorem dX6_ones_12 : decode cX6_ones 12 = .ok (.ishr, 1) := by decide +kernel
theorem dX6_ones_13 : decode cX6_ones 13 = .ok (.iconst 1, 1) := by decide +kernel
theorem dX6_ones_14 : decode cX6_ones 14 = .ok (.iand, 1) := by decide +kernel
theorem dX6_ones_15 : decode cX6_ones 15 = .ok (.iadd, 1) := by decide +kernel
theorem dX6_ones_16 : decode cX6_ones 16 = .ok (.istore_n 1, 1) := by decide +kernel
theorem dX6_ones_17 : decode cX6_ones 17 = .ok (.iinc 2 1, 3) := by decide +kernel
theorem dX6_ones_20 : decode cX6_ones 20 = .ok (.goto (-16), 3) := by decide +kernel
theorem dX6_ones_23 : decode cX6_ones 23 = .ok (.iload_n 1, 1) := by decide +kernel
theorem dX6_ones_24 : decode cX6_ones 24 = .ok (.ireturn, 1) := by decide +kernel
theorem on_loop (g : GX) (d : Nat) {V : AH} {sz s : Nat} (hs : s < 32) : ∀ (f k : Nat), k + f = 5 → AW g mX6_ones d 4 [(2, .int (iZ (k : Int))), (1, .int (iZ (rkb s k : Nat))), (0, .int (iZ (s : Int)))] [] V sz (Ex (some (.int (iZ (rkb s 5 : Nat)))) V sz 0 0)
  | 0, k, hf => by
    obtain rfl : k = 5 := by omega
    refine aw_iload_n dX6_ones_4 (by rfl) ?_
    refine aw_iconstZ dX6_ones_5 ?_
    refine aw_icmp_geZ (tgt := 23) dX6_ones_6 (by decide) (by omega) (by omega) (fun hc_6 => ?_) (fun hc_6 => ?_)
    · refine aw_iload_n dX6_ones_23 (by rfl) ?_
      refine aw_iret dX6_ones_24 rfl (by rfl) ?_
      exact ⟨rfl, rfl, rfl, rfl, rfl⟩
    · exact absurd hc_6 (by omega)
  | f + 1, k, hf => by
    have IH := fun k hk => @on_loop g d V sz s hs f k hk
    refine aw_iload_n dX6_ones_4 (by rfl) ?_
    refine aw_iconstZ dX6_ones_5 ?_
    refine aw_icmp_geZ (tgt := 23) dX6_ones_6 (by decide) (by omega) (by omega) (fun hc_6 => ?_) (fun hc_6 => ?_)
    · exact absurd hc_6 (by omega)
    · refine aw_iload_n dX6_ones_9 (by rfl) ?_
      refine aw_iload_n dX6_ones_10 (by rfl) ?_
      refine aw_iload_n dX6_ones_11 (by rfl) ?_
      refine aw_ishrZ k dX6_ones_12 rfl (by omega) (by omega) (by omega) ?_
      refine aw_iconstZ dX6_ones_13 ?_
      refine aw_iand1Z dX6_ones_14 ?_
      refine aw_topi (y := ((s / 2 ^ k % 2 : Nat) : Int)) (by rw [Int.natCast_emod, Int.natCast_ediv, Int.natCast_pow]; rfl) ?_
      refine aw_iaddZ dX6_ones_15 ?_
      refine aw_istore_n dX6_ones_16 (by decide) ?_
      refine aw_iincZ dX6_ones_17 (by rfl) (by decide) ?_
      refine aw_goto (tgt := 4) dX6_ones_20 (by decide) ?_
      rw [show ((k : Int) + 1) = ((k + 1 : Nat) : Int) by omega, show ((rkb s k : Int) + ((s / 2 ^ k % 2 : Nat) : Int)) = ((rkb s (k + 1) : Nat) : Int) by rw [← Int.natCast_add]; rfl]
      refine aw_pk [2, 1, 0] (by rfl) ?_
      exact IH (k + 1) (by omega)
theorem m_ones (g : GX) (d : Nat) {V : AH} {sz s : Nat} (hs : s < 32) : AMet g mX6_ones d [.int (iZ (s : Int))] V sz (Ex (some (.int (iZ (rkb s 5 : Nat)))) V sz 0 0) := by
  refine AMet.of rfl rfl (Nat.le_of_ble_eq_true rfl) ?_
  show AW g mX6_ones d 0 [(0, .int (iZ (s : Int)))] [] V sz _
  refine aw_iconstZ dX6_ones_0 ?_
  refine aw_istore_n dX6_ones_1 (by decide) ?_
  refine aw_iconstZ dX6_ones_2 ?_
  refine aw_istore_n dX6_ones_3 (by decide) ?_
  refine aw_pk [2, 1, 0] (by rfl) ?_
  exact on_loop g d hs 5 0 (by omega)
abbrev mX6_common : MI := (yX6_common, cX6_common, 10, (some FieldType.long), noX)
theorem dX6_common_0 : decode cX6_common 0 = .ok (.lload_n 0, 1) := by decide +kernel
theorem dX6_common_1 : decode cX6_common 1 = .ok (.lconst 0, 1) := by decide +kernel
theorem dX6_common_2 : decode cX6_common 2 = .ok (.lcmp, 1) := by decide +kernel
theorem dX6_common_3 : decode cX6_common 3 = .ok (.ifCond .ge 8, 3) := by decide +kernel
theorem dX6_common_6 : decode cX6_common 6 = .ok (.lload_n 0, 1) := by decide +kernel
theorem dX6_common_7 : decode cX6_common 7 = .ok (.lneg, 1) := by decide +kernel
theorem dX6_common_8 : decode cX6_common 8 = .ok (.goto 4, 3) := by decide +kernel
theorem dX6_common_11 : decode cX6_common 11 = .ok (.lload_n 0, 1) := by decide +kernel
theorem dX6_common_12 : decode cX6_common 12 = .ok (.lstore 4, 2) := by decide +kernel
theorem dX6_common_14 : decode cX6_common 14 = .ok (.lload_n 2, 1) := by decide +kernel
theorem dX6_common_15 : decode cX6_common 15 = .ok (.lconst 0, 1) := by decide +kernel
theorem dX6_common_16 : decode cX6_common 16 = .ok (.lcmp, 1) := by decide +kernel
theorem dX6_common_17 : decode cX6_common 17 = .ok (.ifCond .ge 8, 3) := by decide +kernel
theorem dX6_common_20 : decode cX6_common 20 = .ok (.lload_n 2, 1) := by decide +kernel
theorem dX6_common_21 : decode cX6_common 21 = .ok (.lneg, 1) := by decide +kernel
theorem dX6_common_22 : decode cX6_common 22 = .ok (.goto 4, 3) := by decide +kernel
theorem dX6_common_25 : decode cX6_common 25 = .ok (.lload_n 2, 1) := by decide +kernel
theorem dX6_common_26 : decode cX6_common 26 = .ok (.lstore 6, 2) := by decide +kernel
theorem dX6_common_28 : decode cX6_common 28 = .ok (.lload 6, 2) := by decide +kernel
theorem dX6_common_30 : decode cX6_common 30 = .ok (.lconst 0, 1) := by decide +kernel
theorem dX6_common_31 : decode cX6_common 31 = .ok (.lcmp, 1) := by decide +kernel
theorem dX6_common_32 : decode cX6_common 32 = .ok (.ifCond .eq 21, 3) := by decide +kernel
theorem dX6_common_35 : decode cX6_common 35 = .ok (.lload 4, 2) := by decide +kernel
theorem dX6_common_37 : decode cX6_common 37 = .ok (.lload 6, 2) := by decide +kernel
theorem dX6_common_39 : decode cX6_common 39 = .ok (.lrem, 1) := by decide +kernel
theorem dX6_common_40 : decode cX6_common 40 = .ok (.lstore 8, 2) := by decide +kernel
theorem dX6_common_42 : decode cX6_common 42 = .ok (.lload 6, 2) := by decide +kernel
theorem dX6_common_44 : decode cX6_common 44 = .ok (.lstore 4, 2) := by decide +kernel
theorem dX6_common_46 : decode cX6_common 46 = .ok (.lload 8, 2) := by decide +kernel
theorem dX6_common_48 : decode cX6_common 48 = .ok (.lstore 6, 2) := by decide +kernel
theorem dX6_common_50 : decode cX6_common 50 = .ok (.goto (-22), 3) := by decide +kernel
theorem dX6_common_53 : decode cX6_common 53 = .ok (.lload 4, 2) := by decide +kernel
theorem dX6_common_55 : decode cX6_common 55 = .ok (.lreturn, 1) := by decide +kernel
/-- what common answers -/
def CmQ (V : AH) (sz : Nat) (B : Int) (DD : Int → Prop) : AQ := fun r V' sz' mc ms => ∃ gg : Int, some (.long (jZ gg)) = r ∧ (0 ≤ gg ∧ gg ≤ B) ∧ (∀ d : Int, d ∣ gg ↔ DD d) ∧ V' = V ∧ sz' = sz ∧ mc = 0 ∧ ms = 0
theorem cmn_loop (g : GX) (d : Nat) {V : AH} {sz : Nat} {B : Int} {DD : Int → Prop} (hB : B < 4611686018427387904) : ∀ (f : Nat) (x y : Int), y ≤ (f : Int) → (0 ≤ x ∧ x ≤ B) → (0 ≤ y ∧ y ≤ B) → (∀ d : Int, DD d ↔ (d ∣ x ∧ d ∣ y)) → AW g mX6_common d 28 [(4, .long (jZ x)), (6, .long (jZ y))] [] V sz (CmQ V sz B DD)
  | 0, x, y, hf, hx, hy, hdv => by
    refine aw_lload dX6_common_28 (by rfl) ?_
    refine aw_lconstZ (z := 0) dX6_common_30 (by decide) ?_
    refine aw_lcmpZ dX6_common_31 (by omega) (by omega) ?_
    refine aw_if_eqZ (tgt := 53) dX6_common_32 (by decide) (by unfold cmpZ; split <;> (try split) <;> omega) (fun hc_32 => ?_) (fun hc_32 => ?_)
    · have hz := cmpZ_eq.mp hc_32
      refine aw_lload dX6_common_53 (by rfl) ?_
      refine aw_lret dX6_common_55 rfl ?_
      exact ⟨x, rfl, hx, fun d => ⟨fun z => (hdv d).mpr ⟨z, by rw [hz]; exact dvd_z d⟩, fun z => ((hdv d).mp z).1⟩, rfl, rfl, rfl, rfl⟩
    · have hz : ¬ y = 0 := fun z => hc_32 (cmpZ_eq.mpr z)
      exact absurd (show y = 0 by omega) (fun z => hc_32 (cmpZ_eq.mpr z))
  | f + 1, x, y, hf, hx, hy, hdv => by
    have IH := fun x y hf => @cmn_loop g d V sz B DD hB f x y hf
    refine aw_lload dX6_common_28 (by rfl) ?_
    refine aw_lconstZ (z := 0) dX6_common_30 (by decide) ?_
    refine aw_lcmpZ dX6_common_31 (by omega) (by omega) ?_
    refine aw_if_eqZ (tgt := 53) dX6_common_32 (by decide) (by unfold cmpZ; split <;> (try split) <;> omega) (fun hc_32 => ?_) (fun hc_32 => ?_)
    · have hz := cmpZ_eq.mp hc_32
      refine aw_lload dX6_common_53 (by rfl) ?_
      refine aw_lret dX6_common_55 rfl ?_
      exact ⟨x, rfl, hx, fun d => ⟨fun z => (hdv d).mpr ⟨z, by rw [hz]; exact dvd_z d⟩, fun z => ((hdv d).mp z).1⟩, rfl, rfl, rfl, rfl⟩
    · have hz : ¬ y = 0 := fun z => hc_32 (cmpZ_eq.mpr z)
      refine aw_lload dX6_common_35 (by rfl) ?_
      refine aw_lload dX6_common_37 (by rfl) ?_
      refine aw_lremZ dX6_common_39 (by omega) (by omega) (by omega) (by omega) ?_
      rw [Int.tmod_eq_emod_of_nonneg hx.1]
      refine aw_lstore dX6_common_40 (by decide) ?_
      refine aw_lload dX6_common_42 (by rfl) ?_
      refine aw_lstore dX6_common_44 (by decide) ?_
      refine aw_lload dX6_common_46 (by rfl) ?_
      refine aw_lstore dX6_common_48 (by decide) ?_
      refine aw_goto (tgt := 28) dX6_common_50 (by decide) ?_
      have hm := Int.emod_nonneg x (show y ≠ 0 by omega)
      have hm2 := Int.emod_lt_of_pos x (show 0 < y by omega)
      refine aw_pk [4, 6] (by rfl) ?_
      exact IH y (x % y) (by omega) ⟨by omega, by omega⟩ ⟨hm, by omega⟩ (fun d => (hdv d).trans gc_dvd.symm)
theorem m_common (g : GX) (d : Nat) {V : AH} {sz : Nat} {B p q : Int} (hB : B < 4611686018427387904) (hp : ab p ≤ B) (hq : ab q ≤ B) : AMet g mX6_common d [.long (jZ p), .long (jZ q)] V sz (CmQ V sz B (fun d => d ∣ p ∧ d ∣ q)) := by
  have hp' := hp
  have hq' := hq
  unfold ab at hp' hq'
  have dn : ∀ d x : Int, d ∣ -x ↔ d ∣ x := fun d x => ⟨fun z => by have := dvd_ng z; rwa [Int.neg_neg] at this, dvd_ng⟩
  refine AMet.of rfl rfl (Nat.le_of_ble_eq_true rfl) ?_
  show AW g mX6_common d 0 [(0, .long (jZ p)), (2, .long (jZ q))] [] V sz _
  refine aw_lload_n dX6_common_0 (by rfl) ?_
  refine aw_lconstZ (z := 0) dX6_common_1 (by decide) ?_
  refine aw_lcmpZ dX6_common_2 (by omega) (by omega) ?_
  refine aw_if_geZ (tgt := 11) dX6_common_3 (by decide) (by unfold cmpZ; split <;> (try split) <;> omega) (fun hc_3 => ?_) (fun hc_3 => ?_)
  · have h3 := cmpZ_ge.mp hc_3
    refine aw_lload_n dX6_common_11 (by rfl) ?_
    refine aw_lstore dX6_common_12 (by decide) ?_
    refine aw_lload_n dX6_common_14 (by rfl) ?_
    refine aw_lconstZ (z := 0) dX6_common_15 (by decide) ?_
    refine aw_lcmpZ dX6_common_16 (by omega) (by omega) ?_
    refine aw_if_geZ (tgt := 25) dX6_common_17 (by decide) (by unfold cmpZ; split <;> (try split) <;> omega) (fun hc_17 => ?_) (fun hc_17 => ?_)
    · have h17 := cmpZ_ge.mp hc_17
      refine aw_lload_n dX6_common_25 (by rfl) ?_
      refine aw_lstore dX6_common_26 (by decide) ?_
      refine aw_pk [4, 6] (by rfl) ?_
      exact cmn_loop g d hB q.natAbs _ _ (by omega) (by omega) (by omega) (fun d => by first | exact Iff.rfl | (rw [dn]; done) | (rw [dn, dn]; done) | simp only [dn])
    · have h17 : ¬ 0 ≤ q := fun z => hc_17 (cmpZ_ge.mpr z)
      refine aw_lload_n dX6_common_20 (by rfl) ?_
      refine aw_lnegZ dX6_common_21 ?_
      refine aw_goto (tgt := 26) dX6_common_22 (by decide) ?_
      refine aw_lstore dX6_common_26 (by decide) ?_
      refine aw_pk [4, 6] (by rfl) ?_
      exact cmn_loop g d hB q.natAbs _ _ (by omega) (by omega) (by omega) (fun d => by first | exact Iff.rfl | (rw [dn]; done) | (rw [dn, dn]; done) | simp only [dn])
  · have h3 : ¬ 0 ≤ p := fun z => hc_3 (cmpZ_ge.mpr z)
    refine aw_lload_n dX6_common_6 (by rfl) ?_
    refine aw_lnegZ dX6_common_7 ?_
    refine aw_goto (tgt := 12) dX6_common_8 (by decide) ?_
    refine aw_lstore dX6_common_12 (by decide) ?_
    refine aw_lload_n dX6_common_14 (by rfl) ?_
    refine aw_lconstZ (z := 0) dX6_common_15 (by decide) ?_
    refine aw_lcmpZ dX6_common_16 (by omega) (by omega) ?_
    refine aw_if_geZ (tgt := 25) dX6_common_17 (by decide) (by unfold cmpZ; split <;> (try split) <;> omega) (fun hc_17 => ?_) (fun hc_17 => ?_)
    · have h17 := cmpZ_ge.mp hc_17
      refine aw_lload_n dX6_common_25 (by rfl) ?_
      refine aw_lstore dX6_common_26 (by decide) ?_
      refine aw_pk [4, 6] (by rfl) ?_
      exact cmn_loop g d hB q.natAbs _ _ (by omega) (by omega) (by omega) (fun d => by first | exact Iff.rfl | (rw [dn]; done) | (rw [dn, dn]; done) | simp only [dn])
    · have h17 : ¬ 0 ≤ q := fun z => hc_17 (cmpZ_ge.mpr z)
      refine aw_lload_n dX6_common_20 (by rfl) ?_
      refine aw_lnegZ dX6_common_21 ?_
      refine aw_goto (tgt := 26) dX6_common_22 (by decide) ?_
      refine aw_lstore dX6_common_26 (by decide) ?_
      refine aw_pk [4, 6] (by rfl) ?_
      exact cmn_loop g d hB q.natAbs _ _ (by omega) (by omega) (by omega) (fun d => by first | exact Iff.rfl | (rw [dn]; done) | (rw [dn, dn]; done) | simp only [dn])

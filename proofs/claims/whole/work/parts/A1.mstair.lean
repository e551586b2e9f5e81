/-! ===== the reference: stair, kernel ===== -/
/-- rows told, so far -/
def TdI (src : Nat → Nat → Nat) (w : Nat) (zs z' : Nat → Int) (i j : Nat) : Prop := (∀ a b, (a < i ∧ b < w) ∨ (a = i ∧ b < j) → z' (265 + 10 * a + b) = zs (src a b)) ∧ ∀ q, ¬ (265 ≤ q ∧ q < 365) → z' q = zs q
theorem TdI.nil {src : Nat → Nat → Nat} {w : Nat} {zs : Nat → Int} : TdI src w zs zs 0 0 := ⟨fun a b h => absurd h (by omega), fun _ _ => rfl⟩
theorem TdI.up {src : Nat → Nat → Nat} {w : Nat} {zs z' : Nat → Int} {i j s : Nat} (h : TdI src w zs z' i j) (hw : w ≤ 10) (hj : j < w) (hi : i < 10) (hs : s = src i j) (h2 : ¬ (265 ≤ s ∧ s < 365)) : TdI src w zs (upF z' (265 + 10 * i + j) (z' s)) i (j + 1) := by
  refine ⟨fun a b hab => ?_, fun q hq => ?_⟩
  · by_cases e : a = i ∧ b = j
    · rw [e.1, e.2, upF_self, h.2 s h2, hs]
    · rw [upF_ne _ _ (by omega)]
      exact h.1 a b (by omega)
  · rw [upF_ne _ _ (by omega)]
    exact h.2 q hq
theorem TdI.out {src : Nat → Nat → Nat} {w : Nat} {zs z' : Nat → Int} {i : Nat} (h : TdI src w zs z' i w) : TdI src w zs z' (i + 1) 0 := ⟨fun a b hab => h.1 a b (by omega), h.2⟩
abbrev mX6_stairTold : MI := (yX6_stairTold, cX6_stairTold, 4, (some FieldType.int), noX)
theorem dX6_stairTold_0 : decode cX6_stairTold 0 = .ok (.iconst 0, 1) := by decide +kernel
theorem dX6_stairTold_1 : decode cX6_stairTold 1 = .ok (.istore_n 2, 1) := by decide +kernel
theorem dX6_stairTold_2 : decode cX6_stairTold 2 = .ok (.iload_n 2, 1) := by decide +kernel
theorem dX6_stairTold_3 : decode cX6_stairTold 3 = .ok (.aload_n 0, 1) := by decide +kernel
theorem dX6_stairTold_4 : decode cX6_stairTold 4 = .ok (.getfield 117, 3) := by decide +kernel
theorem dX6_stairTold_7 : decode cX6_stairTold 7 = .ok (.if_icmp .ge 42, 3) := by decide +kernel
theorem dX6_stairTold_10 : decode cX6_stairTold 10 = .ok (.iconst 0, 1) := by decide +kernel
theorem dX6_stairTold_11 : decode cX6_stairTold 11 = .ok (.istore_n 3, 1) := by decide +kernel
theorem dX6_stairTold_12 : decode cX6_stairTold 12 = .ok (.iload_n 3, 1) := by decide +kernel
theorem dX6_stairTold_13 : decode cX6_stairTold 13 = .ok (.iconst 5, 1) := by decide +kernel
theorem dX6_stairTold_14 : decode cX6_stairTold 14 = .ok (.if_icmp .ge 29, 3) := by decide +kernel
theorem dX6_stairTold_17 : decode cX6_stairTold 17 = .ok (.aload_n 0, 1) := by decide +kernel
theorem dX6_stairTold_18 : decode cX6_stairTold 18 = .ok (.bipush 15, 2) := by decide +kernel
theorem dX6_stairTold_20 : decode cX6_stairTold 20 = .ok (.iload_n 2, 1) := by decide +kernel
theorem dX6_stairTold_21 : decode cX6_stairTold 21 = .ok (.imul, 1) := by decide +kernel
theorem dX6_stairTold_22 : decode cX6_stairTold 22 = .ok (.iload_n 3, 1) := by decide +kernel
theorem dX6_stairTold_23 : decode cX6_stairTold 23 = .ok (.iadd, 1) := by decide +kernel
theorem dX6_stairTold_24 : decode cX6_stairTold 24 = .ok (.sipush 265, 3) := by decide +kernel
theorem dX6_stairTold_27 : decode cX6_stairTold 27 = .ok (.bipush 10, 2) := by decide +kernel
theorem dX6_stairTold_29 : decode cX6_stairTold 29 = .ok (.iload_n 2, 1) := by decide +kernel
theorem dX6_stairTold_30 : decode cX6_stairTold 30 = .ok (.imul, 1) := by decide +kernel
theorem dX6_stairTold_31 : decode cX6_stairTold 31 = .ok (.iadd, 1) := by decide +kernel
theorem dX6_stairTold_32 : decode cX6_stairTold 32 = .ok (.iload_n 3, 1) := by decide +kernel
theorem dX6_stairTold_33 : decode cX6_stairTold 33 = .ok (.iadd, 1) := by decide +kernel
theorem dX6_stairTold_34 : decode cX6_stairTold 34 = .ok (.invokevirtual 67, 3) := by decide +kernel
theorem dX6_stairTold_37 : decode cX6_stairTold 37 = .ok (.iinc 3 1, 3) := by decide +kernel
theorem dX6_stairTold_40 : decode cX6_stairTold 40 = .ok (.goto (-28), 3) := by decide +kernel
theorem dX6_stairTold_43 : decode cX6_stairTold 43 = .ok (.iinc 2 1, 3) := by decide +kernel
theorem dX6_stairTold_46 : decode cX6_stairTold 46 = .ok (.goto (-44), 3) := by decide +kernel
theorem dX6_stairTold_49 : decode cX6_stairTold 49 = .ok (.aload_n 0, 1) := by decide +kernel
theorem dX6_stairTold_50 : decode cX6_stairTold 50 = .ok (.aload_n 0, 1) := by decide +kernel
theorem dX6_stairTold_51 : decode cX6_stairTold 51 = .ok (.getfield 117, 3) := by decide +kernel
theorem dX6_stairTold_54 : decode cX6_stairTold 54 = .ok (.iload_n 1, 1) := by decide +kernel
theorem dX6_stairTold_55 : decode cX6_stairTold 55 = .ok (.invokevirtual 189, 3) := by decide +kernel
theorem dX6_stairTold_58 : decode cX6_stairTold 58 = .ok (.aload_n 0, 1) := by decide +kernel
theorem dX6_stairTold_59 : decode cX6_stairTold 59 = .ok (.getfield 117, 3) := by decide +kernel
theorem dX6_stairTold_62 : decode cX6_stairTold 62 = .ok (.ireturn, 1) := by decide +kernel
theorem td_si (d : Nat) {g : GX} {V0 : AH} {mo sz r κ i : Nat} {ar ac wd : Int} {zs : Nat → Int} {Q : AQ} (hi : i < 10)
    (hKK : ∀ {V : AH} {z : Nat → Int}, V mo = some (moO mo r κ ar ac) → MN g mo V z → (∀ a, ¬ EN mo a → V a = V0 a) → TdI (fun a b => 15 * a + b) 5 zs z i 5 → AW g mX6_stairTold (d + 1) 43 [(2, .int (iZ i)), (0, .ref mo), (1, .int (iZ wd))] [] V sz Q) : ∀ (y j : Nat), j + y = 5 → ∀ {V : AH} {z : Nat → Int}, V mo = some (moO mo r κ ar ac) → MN g mo V z → (∀ a, ¬ EN mo a → V a = V0 a) → TdI (fun a b => 15 * a + b) 5 zs z i j → AW g mX6_stairTold (d + 1) 12 [(3, .int (iZ j)), (2, .int (iZ i)), (0, .ref mo), (1, .int (iZ wd))] [] V sz Q
  | 0, j, hy, V, z, hmo, hM, hV, hC => by
    refine aw_iload_n dX6_stairTold_12 (by rfl) ?_
    refine aw_iconstZ dX6_stairTold_13 ?_
    refine aw_icmp_geZ (tgt := 43) dX6_stairTold_14 (by decide) (by omega) (by omega) (fun hc_14 => ?_) (fun hc_14 => ?_)
    · obtain rfl : j = 5 := by omega
      refine aw_pk [2, 0, 1] (by rfl) ?_
      exact hKK hmo hM hV hC
    · exact absurd hc_14 (by omega)
  | y + 1, j, hy, V, z, hmo, hM, hV, hC => by
    have IH := fun j hj => @td_si d g V0 mo sz r κ i ar ac wd zs Q hi hKK y j hj
    refine aw_iload_n dX6_stairTold_12 (by rfl) ?_
    refine aw_iconstZ dX6_stairTold_13 ?_
    refine aw_icmp_geZ (tgt := 43) dX6_stairTold_14 (by decide) (by omega) (by omega) (fun hc_14 => ?_) (fun hc_14 => ?_)
    · exact absurd hc_14 (by omega)
    · refine aw_aload_n dX6_stairTold_17 (by rfl) (Or.inr ⟨_, rfl⟩) ?_
      refine aw_bipushZ dX6_stairTold_18 (by decide) ?_
      refine aw_iload_n dX6_stairTold_20 (by rfl) ?_
      refine aw_imulZ dX6_stairTold_21 ?_
      refine aw_iload_n dX6_stairTold_22 (by rfl) ?_
      refine aw_iaddZ dX6_stairTold_23 ?_
      refine aw_topi (y := ((15 * i + j : Nat) : Int)) (by omega) ?_
      refine aw_sipushZ dX6_stairTold_24 (by decide) ?_
      refine aw_bipushZ dX6_stairTold_27 (by decide) ?_
      refine aw_iload_n dX6_stairTold_29 (by rfl) ?_
      refine aw_imulZ dX6_stairTold_30 ?_
      refine aw_iaddZ dX6_stairTold_31 ?_
      refine aw_iload_n dX6_stairTold_32 (by rfl) ?_
      refine aw_iaddZ dX6_stairTold_33 ?_
      refine aw_topi (y := ((265 + 10 * i + j : Nat) : Int)) (by omega) ?_
      refine aw_callv vX6_67 dX6_stairTold_34 hmo (m_copies g (d + 0) (a := 15 * i + j) (c := 265 + 10 * i + j) ⟨_, _, ar, ac, hmo⟩ hM (by omega) (by omega)) (by rfl) (by rfl) (by omega) (Nat.le_of_ble_eq_true rfl) ?_
      rintro _ V1 _ _ _ ⟨rfl, rfl, rfl, hE1, rfl, hM1⟩ -
      refine q0 ?_
      refine aw_iincZ dX6_stairTold_37 (by rfl) (by decide) ?_
      refine aw_goto (tgt := 12) dX6_stairTold_40 (by decide) ?_
      rw [show ((j : Int) + 1) = ((j + 1 : Nat) : Int) by omega]
      refine aw_pk [3, 2, 0, 1] (by rfl) ?_
      exact IH (j + 1) (by omega) ((hE1 mo (by unfold EN; omega)).trans hmo) hM1 (fun a ha => (hE1 a ha).trans (hV a ha)) (hC.up (by omega) (by omega) (by omega) rfl (by omega))
theorem td_so (d : Nat) {g : GX} {V0 : AH} {mo sz r κ : Nat} {ar ac wd : Int} {zs : Nat → Int} {Q : AQ} (hr : r ≤ 10)
    (hKK : ∀ {V : AH} {z : Nat → Int}, V mo = some (moO mo r κ ar ac) → MN g mo V z → (∀ a, ¬ EN mo a → V a = V0 a) → TdI (fun a b => 15 * a + b) 5 zs z r 0 → AW g mX6_stairTold (d + 1) 49 [(0, .ref mo), (1, .int (iZ wd))] [] V sz Q) : ∀ (y i : Nat), i + y = r → ∀ {V : AH} {z : Nat → Int}, V mo = some (moO mo r κ ar ac) → MN g mo V z → (∀ a, ¬ EN mo a → V a = V0 a) → TdI (fun a b => 15 * a + b) 5 zs z i 0 → AW g mX6_stairTold (d + 1) 2 [(2, .int (iZ i)), (0, .ref mo), (1, .int (iZ wd))] [] V sz Q
  | 0, i, hy, V, z, hmo, hM, hV, hC => by
    refine aw_iload_n dX6_stairTold_2 (by rfl) ?_
    refine aw_aload_n dX6_stairTold_3 (by rfl) (Or.inr ⟨_, rfl⟩) ?_
    refine aw_get fX6_117 dX6_stairTold_4 hmo (by rfl) ?_
    refine aw_icmp_geZ (tgt := 49) dX6_stairTold_7 (by decide) (by omega) (by omega) (fun hc_7 => ?_) (fun hc_7 => ?_)
    · obtain rfl : i = r := by omega
      refine aw_pk [0, 1] (by rfl) ?_
      exact hKK hmo hM hV hC
    · exact absurd hc_7 (by omega)
  | y + 1, i, hy, V, z, hmo, hM, hV, hC => by
    have IH := fun i hi => @td_so d g V0 mo sz r κ ar ac wd zs Q hr hKK y i hi
    refine aw_iload_n dX6_stairTold_2 (by rfl) ?_
    refine aw_aload_n dX6_stairTold_3 (by rfl) (Or.inr ⟨_, rfl⟩) ?_
    refine aw_get fX6_117 dX6_stairTold_4 hmo (by rfl) ?_
    refine aw_icmp_geZ (tgt := 49) dX6_stairTold_7 (by decide) (by omega) (by omega) (fun hc_7 => ?_) (fun hc_7 => ?_)
    · exact absurd hc_7 (by omega)
    · refine aw_iconstZ dX6_stairTold_10 ?_
      refine aw_istore_n dX6_stairTold_11 (by decide) ?_
      refine aw_pk [3, 2, 0, 1] (by rfl) ?_
      refine td_si d (V0 := V0) (zs := zs) (r := r) (κ := κ) (by omega) (fun {V2 z2} hmo2 hM2 hV2 hC2 => ?_) 5 0 (by omega) hmo hM hV hC
      refine aw_iincZ dX6_stairTold_43 (by rfl) (by decide) ?_
      refine aw_goto (tgt := 2) dX6_stairTold_46 (by decide) ?_
      rw [show ((i : Int) + 1) = ((i + 1 : Nat) : Int) by omega]
      refine aw_pk [2, 0, 1] (by rfl) ?_
      exact IH (i + 1) (by omega) hmo2 hM2 hV2 hC2.out
theorem m_stairTold (g : GX) (d : Nat) {V : AH} {mo sz r κ wd : Nat} {ar ac : Int} {zs : Nat → Int} (hmo : V mo = some (moO mo r κ ar ac)) (hM : MN g mo V zs) (hr : r ≤ 10) : AMet g mX6_stairTold (d + 1) [.ref mo, .int (iZ wd)] V sz (VX V sz (fun a => mo ≤ a ∧ a ≤ mo + 5) (fun q V' => some (.int (iZ r)) = q ∧ V' mo = some (moO mo r κ r (if r = 0 then 0 else (wd : Int))) ∧ ∃ z', MN g mo V' z' ∧ TdI (fun a b => 15 * a + b) 5 zs z' r 0)) := by
  refine AMet.of rfl rfl (Nat.le_of_ble_eq_true rfl) ?_
  show AW g mX6_stairTold (d + 1) 0 [(0, .ref mo), (1, .int (iZ wd))] [] V sz _
  refine aw_iconstZ dX6_stairTold_0 ?_
  refine aw_istore_n dX6_stairTold_1 (by decide) ?_
  refine aw_pk [2, 0, 1] (by rfl) ?_
  refine td_so d (V0 := V) (zs := zs) (r := r) (κ := κ) hr (fun {V1 z1} hmo1 hM1 hV1 hC1 => ?_) r 0 (by omega) hmo hM (fun _ _ => rfl) TdI.nil
  refine aw_aload_n dX6_stairTold_49 (by rfl) (Or.inr ⟨_, rfl⟩) ?_
  refine aw_aload_n dX6_stairTold_50 (by rfl) (Or.inr ⟨_, rfl⟩) ?_
  refine aw_get fX6_117 dX6_stairTold_51 hmo1 (by rfl) ?_
  refine aw_iload_n dX6_stairTold_54 (by rfl) ?_
  refine aw_callv vX6_189 dX6_stairTold_55 hmo1 (m_tells g d (h := r) (w := wd) hmo1 (by omega)) (by rfl) (by rfl) (by omega) (Nat.le_of_ble_eq_true rfl) ?_
  rintro _ V2 _ _ _ ⟨rfl, rfl, rfl, hE2, rfl, hmo2⟩ -
  refine q0 ?_
  refine aw_aload_n dX6_stairTold_58 (by rfl) (Or.inr ⟨_, rfl⟩) ?_
  refine aw_get fX6_117 dX6_stairTold_59 hmo2 (by rfl) ?_
  refine aw_iret dX6_stairTold_62 rfl (by rfl) ?_
  exact ⟨rfl, rfl, rfl, fun a ha => (hE2 a (fun z => ha (by omega))).trans (hV1 a (fun z => ha (by unfold EN at z; omega))), rfl, hmo2, z1, hM1.kept (fun a ha => hE2 a (by unfold EN at ha; omega)), hC1⟩
abbrev mX6_stair : MI := (yX6_stair, cX6_stair, 2, (some FieldType.int), noX)
theorem dX6_stair_0 : decode cX6_stair 0 = .ok (.aload_n 0, 1) := by decide +kernel
theorem dX6_stair_1 : decode cX6_stair 1 = .ok (.iload_n 1, 1) := by decide +kernel
theorem dX6_stair_2 : decode cX6_stair 2 = .ok (.invokevirtual 137, 3) := by decide +kernel
theorem dX6_stair_5 : decode cX6_stair 5 = .ok (.ifCond .ne 5, 3) := by decide +kernel
theorem dX6_stair_8 : decode cX6_stair 8 = .ok (.iconst (-1), 1) := by decide +kernel
theorem dX6_stair_9 : decode cX6_stair 9 = .ok (.ireturn, 1) := by decide +kernel
theorem dX6_stair_10 : decode cX6_stair 10 = .ok (.aload_n 0, 1) := by decide +kernel
theorem dX6_stair_11 : decode cX6_stair 11 = .ok (.iload_n 1, 1) := by decide +kernel
theorem dX6_stair_12 : decode cX6_stair 12 = .ok (.invokevirtual 165, 3) := by decide +kernel
theorem dX6_stair_15 : decode cX6_stair 15 = .ok (.aload_n 0, 1) := by decide +kernel
theorem dX6_stair_16 : decode cX6_stair 16 = .ok (.aload_n 0, 1) := by decide +kernel
theorem dX6_stair_17 : decode cX6_stair 17 = .ok (.getfield 40, 3) := by decide +kernel
theorem dX6_stair_20 : decode cX6_stair 20 = .ok (.iload_n 1, 1) := by decide +kernel
theorem dX6_stair_21 : decode cX6_stair 21 = .ok (.iaload, 1) := by decide +kernel
theorem dX6_stair_22 : decode cX6_stair 22 = .ok (.invokevirtual 201, 3) := by decide +kernel
theorem dX6_stair_25 : decode cX6_stair 25 = .ok (.ireturn, 1) := by decide +kernel
theorem tbZ_yes {S : TSt} {t : Int} (h : ¬ tbZ S t = 0) : ∃ n : Nat, n < 12 ∧ t = (n : Int) ∧ 0 < S.r n := by
  have : 0 ≤ t ∧ t < 12 ∧ 0 < S.r t.toNat := Classical.byContradiction (fun z => h (if_neg z))
  exact ⟨t.toNat, by omega, by omega, this.2.2⟩
theorem tbZ_no {S : TSt} {t : Int} (h : tbZ S t = 0) : ∀ n : Nat, n < 12 → t = (n : Int) → S.r n = 0 := fun n hn e => by
  rcases Nat.eq_zero_or_pos (S.r n) with z | z
  · exact z
  · rw [show tbZ S t = 1 from if_pos ⟨by omega, by omega, by rw [e]; exact z⟩] at h
    omega
theorem tbZ_R (S : TSt) (t : Int) : R32 (tbZ S t) := by unfold tbZ; split <;> omega
/-- a new answer that has been told -/
theorem RX.tell {g : GX} {mo : Nat} {V V' : AH} {zs z' : Nat → Int} {S : TSt} {A : ASt} {h w : Nat} {B : Mat} {rk kn : Int} {F6 F7 : Nat → Int} (hR : RX g mo V zs S A) (hmo : V' mo = some (moO mo rk kn h (if h = 0 then 0 else (w : Int)))) (h6 : V' (mo + 6) = some (aIz g 11 F6)) (h7 : V' (mo + 7) = some (aIz g 11 F7)) (hV : ∀ a, mo + 8 ≤ a → a ≤ mo + 15 → V' a = V a) (hM : MN g mo V' z') (hz : ∀ i j, i < h → j < w → z' (265 + 10 * i + j) = B i j) (hh : h ≤ 10) (hw : w ≤ 5) : RX g mo V' z' S (1, h, if h = 0 then 0 else w, B) := by
  obtain ⟨-, -, -, ⟨F3, a3⟩, ⟨F4, a4⟩, ⟨F5, a5⟩, hT, -, -, hTO, -⟩ := hR
  refine ⟨⟨rk, kn, ?_⟩, ⟨F6, h6⟩, ⟨F7, h7⟩, ⟨F3, (hV _ (by omega) (by omega)).trans a3⟩, ⟨F4, (hV _ (by omega) (by omega)).trans a4⟩, ⟨F5, (hV _ (by omega) (by omega)).trans a5⟩, hT.kept (fun a h1 h2 => hV a h1 (by omega)), hM, fun i j hi hj => ?_, hTO, Or.inr rfl, hh, ?_, fun q => absurd (show (1 : Nat) = 0 from q) (by decide)⟩
  · rw [hmo]
    rw [show arZ ((1, h, (if h = 0 then 0 else w), B) : ASt) = (h : Int) from rfl, show acZ ((1, h, (if h = 0 then 0 else w), B) : ASt) = ((if h = 0 then 0 else w : Nat) : Int) from rfl]
    by_cases e : h = 0
    · rw [if_pos e, if_pos e]; rfl
    · rw [if_neg e, if_neg e]
  · have hi' : i < h := hi
    have hj' : j < (if h = 0 then 0 else w) := hj
    rw [if_neg (by omega)] at hj'
    exact hz i j hi' hj'
  · show (if h = 0 then 0 else w) ≤ 5
    split <;> omega
theorem m_stair (g : GX) (d : Nat) {V : AH} {mo sz : Nat} {zs : Nat → Int} {S : TSt} {A : ASt} {t : Int} (hR : RX g mo V zs S A) (ht : R32 t) : AMet g mX6_stair (d + 9) [.ref mo, .int (iZ t)] V sz (RE g mo V sz (fun q S' A' => S' = S ∧ ((∃ (n h1 : Nat) (l1 : Nat → Nat) (B : Mat), n < 12 ∧ t = (n : Int) ∧ 0 < S.r n ∧ Stair B h1 (S.c n) l1 ∧ SpEq (TM (S.N n)) (S.r n) B h1 (S.c n) ∧ some (.int (iZ h1)) = q ∧ AIs A' h1 (S.c n) B) ∨ ((∀ n : Nat, n < 12 → t = (n : Int) → S.r n = 0) ∧ some (.int (iZ (-1))) = q ∧ A' = A)))) := by
  obtain ⟨⟨rk, kn, hmo⟩, -, -, -, -, -, hT, -, -, hTO, -⟩ := id hR
  refine AMet.of rfl rfl (Nat.le_of_ble_eq_true rfl) ?_
  show AW g mX6_stair (d + 9) 0 [(0, .ref mo), (1, .int (iZ t))] [] V sz _
  refine aw_aload_n dX6_stair_0 (by rfl) (Or.inr ⟨_, rfl⟩) ?_
  refine aw_iload_n dX6_stair_1 (by rfl) ?_
  refine aw_callv vX6_137 dX6_stair_2 hmo (m_isTable g (d + 8) (t := t) hmo hT ht) (by rfl) (by rfl) (by omega) (Nat.le_of_ble_eq_true rfl) ?_
  rintro _ _ _ _ _ ⟨rfl, rfl, rfl, rfl, rfl⟩ -
  refine q0 ?_
  refine aw_if_neZ (tgt := 10) dX6_stair_5 (by decide) (tbZ_R _ _) (fun hc_5 => ?_) (fun hc_5 => ?_)
  · obtain ⟨n, hn, rfl, hrn⟩ := tbZ_yes hc_5
    obtain ⟨o1, o2, -⟩ := hTO n hn
    refine aw_aload_n dX6_stair_10 (by rfl) (Or.inr ⟨_, rfl⟩) ?_
    refine aw_iload_n dX6_stair_11 (by rfl) ?_
    refine aw_callv vX6_165 dX6_stair_12 hmo (m_stairOf g d (t := n) hR hn) (by rfl) (by rfl) (by omega) (Nat.le_of_ble_eq_true rfl) ?_
    rintro _ V1 _ _ _ ⟨rfl, rfl, rfl, hE1, rfl, r1, κ1, l1, lk1, z1, ⟨RW1, RK1, hmo1, hra1, hrk1, hl1, hlk1, hM1, hl51⟩, hst1, hsp1, hlc1, hln1, -, -, hn1, hF1⟩ -
    refine q0 ?_
    obtain ⟨TH, RR, CC, NN, HH, t1, t2, t3, t4, t5, t6⟩ := hT.kept (V' := V1) (fun a h1 h2 => hE1 a (by unfold EC; omega))
    refine aw_aload_n dX6_stair_15 (by rfl) (Or.inr ⟨_, rfl⟩) ?_
    refine aw_aload_n dX6_stair_16 (by rfl) (Or.inr ⟨_, rfl⟩) ?_
    refine aw_get fX6_40 dX6_stair_17 hmo1 (by rfl) ?_
    refine aw_iload_n dX6_stair_20 (by rfl) ?_
    refine aw_ialdZ (n) dX6_stair_21 t3 (by omega) (by omega) (by omega) ?_
    rw [(t6 n hn).2.2.1]
    refine aw_callv vX6_201 dX6_stair_22 hmo1 (m_stairTold g (d + 7) (wd := S.c n) hmo1 hM1 (by omega)) (by rfl) (by rfl) (by omega) (Nat.le_of_ble_eq_true rfl) ?_
    rintro _ V2 _ _ _ ⟨rfl, rfl, rfl, hE2, rfl, hmo2, z2, hM2, hC2⟩ -
    refine q0 ?_
    obtain ⟨s1, s2⟩ := stair_of hst1 hsp1 (cp_split hlc1)
    refine aw_iret dX6_stair_25 rfl (by rfl) ?_
    refine ⟨rfl, rfl, rfl, fun a ha => (hE2 a (fun z => ha (by unfold EM; omega))).trans (hE1 a (fun z => ha (by unfold EC at z; unfold EM; omega))), z2, S, _, hR.tell (h := r1) (w := S.c n) (B := CPx (S.c n) r1 z1) hmo2 ((hE2 _ (by omega)).trans hra1) ((hE2 _ (by omega)).trans hrk1) (fun a h1 h2 => (hE2 a (by omega)).trans (hE1 a (by unfold EC; omega))) hM2 (fun i j hi hj => ?_) (by omega) o2, rfl, Or.inl ⟨n, r1, _, _, hn, rfl, hrn, s1, s2, rfl, rfl, rfl, rfl, fun _ _ _ _ => rfl⟩⟩
    rw [hC2.1 i j (by omega), cp_s hi hj]
  · have hno := tbZ_no hc_5
    refine aw_iconstZ dX6_stair_8 ?_
    refine aw_iret dX6_stair_9 rfl (by rfl) ?_
    exact ⟨rfl, rfl, rfl, fun _ _ => rfl, zs, S, A, hR, rfl, Or.inr ⟨hno, rfl, rfl⟩⟩
abbrev mX6_kernel : MI := (yX6_kernel, cX6_kernel, 4, (some FieldType.int), noX)
theorem dX6_kernel_0 : decode cX6_kernel 0 = .ok (.aload_n 0, 1) := by decide +kernel
theorem dX6_kernel_1 : decode cX6_kernel 1 = .ok (.iload_n 1, 1) := by decide +kernel
theorem dX6_kernel_2 : decode cX6_kernel 2 = .ok (.invokevirtual 137, 3) := by decide +kernel
theorem dX6_kernel_5 : decode cX6_kernel 5 = .ok (.ifCond .ne 5, 3) := by decide +kernel
theorem dX6_kernel_8 : decode cX6_kernel 8 = .ok (.iconst (-1), 1) := by decide +kernel
theorem dX6_kernel_9 : decode cX6_kernel 9 = .ok (.ireturn, 1) := by decide +kernel
theorem dX6_kernel_10 : decode cX6_kernel 10 = .ok (.aload_n 0, 1) := by decide +kernel
theorem dX6_kernel_11 : decode cX6_kernel 11 = .ok (.iload_n 1, 1) := by decide +kernel
theorem dX6_kernel_12 : decode cX6_kernel 12 = .ok (.invokevirtual 165, 3) := by decide +kernel
theorem dX6_kernel_15 : decode cX6_kernel 15 = .ok (.iconst 0, 1) := by decide +kernel
theorem dX6_kernel_16 : decode cX6_kernel 16 = .ok (.istore_n 2, 1) := by decide +kernel
theorem dX6_kernel_17 : decode cX6_kernel 17 = .ok (.iload_n 2, 1) := by decide +kernel
theorem dX6_kernel_18 : decode cX6_kernel 18 = .ok (.aload_n 0, 1) := by decide +kernel
theorem dX6_kernel_19 : decode cX6_kernel 19 = .ok (.getfield 131, 3) := by decide +kernel
theorem dX6_kernel_22 : decode cX6_kernel 22 = .ok (.if_icmp .ge 47, 3) := by decide +kernel
theorem dX6_kernel_25 : decode cX6_kernel 25 = .ok (.iconst 0, 1) := by decide +kernel
theorem dX6_kernel_26 : decode cX6_kernel 26 = .ok (.istore_n 3, 1) := by decide +kernel
theorem dX6_kernel_27 : decode cX6_kernel 27 = .ok (.iload_n 3, 1) := by decide +kernel
theorem dX6_kernel_28 : decode cX6_kernel 28 = .ok (.bipush 10, 2) := by decide +kernel
theorem dX6_kernel_30 : decode cX6_kernel 30 = .ok (.if_icmp .ge 33, 3) := by decide +kernel
theorem dX6_kernel_33 : decode cX6_kernel 33 = .ok (.aload_n 0, 1) := by decide +kernel
theorem dX6_kernel_34 : decode cX6_kernel 34 = .ok (.sipush 165, 3) := by decide +kernel
theorem dX6_kernel_37 : decode cX6_kernel 37 = .ok (.bipush 10, 2) := by decide +kernel
theorem dX6_kernel_39 : decode cX6_kernel 39 = .ok (.iload_n 2, 1) := by decide +kernel
theorem dX6_kernel_40 : decode cX6_kernel 40 = .ok (.imul, 1) := by decide +kernel
theorem dX6_kernel_41 : decode cX6_kernel 41 = .ok (.iadd, 1) := by decide +kernel
theorem dX6_kernel_42 : decode cX6_kernel 42 = .ok (.iload_n 3, 1) := by decide +kernel
theorem dX6_kernel_43 : decode cX6_kernel 43 = .ok (.iadd, 1) := by decide +kernel
theorem dX6_kernel_44 : decode cX6_kernel 44 = .ok (.sipush 265, 3) := by decide +kernel
theorem dX6_kernel_47 : decode cX6_kernel 47 = .ok (.bipush 10, 2) := by decide +kernel
theorem dX6_kernel_49 : decode cX6_kernel 49 = .ok (.iload_n 2, 1) := by decide +kernel
theorem dX6_kernel_50 : decode cX6_kernel 50 = .ok (.imul, 1) := by decide +kernel
theorem dX6_kernel_51 : decode cX6_kernel 51 = .ok (.iadd, 1) := by decide +kernel
theorem dX6_kernel_52 : decode cX6_kernel 52 = .ok (.iload_n 3, 1) := by decide +kernel
theorem dX6_kernel_53 : decode cX6_kernel 53 = .ok (.iadd, 1) := by decide +kernel
theorem dX6_kernel_54 : decode cX6_kernel 54 = .ok (.invokevirtual 67, 3) := by decide +kernel
theorem dX6_kernel_57 : decode cX6_kernel 57 = .ok (.iinc 3 1, 3) := by decide +kernel
theorem dX6_kernel_60 : decode cX6_kernel 60 = .ok (.goto (-33), 3) := by decide +kernel
theorem dX6_kernel_63 : decode cX6_kernel 63 = .ok (.iinc 2 1, 3) := by decide +kernel
theorem dX6_kernel_66 : decode cX6_kernel 66 = .ok (.goto (-49), 3) := by decide +kernel
theorem dX6_kernel_69 : decode cX6_kernel 69 = .ok (.aload_n 0, 1) := by decide +kernel
theorem dX6_kernel_70 : decode cX6_kernel 70 = .ok (.aload_n 0, 1) := by decide +kernel
theorem dX6_kernel_71 : decode cX6_kernel 71 = .ok (.getfield 131, 3) := by decide +kernel
theorem dX6_kernel_74 : decode cX6_kernel 74 = .ok (.aload_n 0, 1) := by decide +kernel
theorem dX6_kernel_75 : decode cX6_kernel 75 = .ok (.getfield 37, 3) := by decide +kernel
theorem dX6_kernel_78 : decode cX6_kernel 78 = .ok (.iload_n 1, 1) := by decide +kernel
theorem dX6_kernel_79 : decode cX6_kernel 79 = .ok (.iaload, 1) := by decide +kernel
theorem dX6_kernel_80 : decode cX6_kernel 80 = .ok (.invokevirtual 189, 3) := by decide +kernel
theorem dX6_kernel_83 : decode cX6_kernel 83 = .ok (.aload_n 0, 1) := by decide +kernel
theorem dX6_kernel_84 : decode cX6_kernel 84 = .ok (.getfield 131, 3) := by decide +kernel
theorem dX6_kernel_87 : decode cX6_kernel 87 = .ok (.ireturn, 1) := by decide +kernel
theorem td_ki (d : Nat) {g : GX} {V0 : AH} {mo sz r κ i : Nat} {ar ac wd : Int} {zs : Nat → Int} {Q : AQ} (hi : i < 10)
    (hKK : ∀ {V : AH} {z : Nat → Int}, V mo = some (moO mo r κ ar ac) → MN g mo V z → (∀ a, ¬ EN mo a → V a = V0 a) → TdI (fun a b => 165 + 10 * a + b) 10 zs z i 10 → AW g mX6_kernel (d + 9) 63 [(2, .int (iZ i)), (0, .ref mo), (1, .int (iZ wd))] [] V sz Q) : ∀ (y j : Nat), j + y = 10 → ∀ {V : AH} {z : Nat → Int}, V mo = some (moO mo r κ ar ac) → MN g mo V z → (∀ a, ¬ EN mo a → V a = V0 a) → TdI (fun a b => 165 + 10 * a + b) 10 zs z i j → AW g mX6_kernel (d + 9) 27 [(3, .int (iZ j)), (2, .int (iZ i)), (0, .ref mo), (1, .int (iZ wd))] [] V sz Q
  | 0, j, hy, V, z, hmo, hM, hV, hC => by
    refine aw_iload_n dX6_kernel_27 (by rfl) ?_
    refine aw_bipushZ dX6_kernel_28 (by decide) ?_
    refine aw_icmp_geZ (tgt := 63) dX6_kernel_30 (by decide) (by omega) (by omega) (fun hc_30 => ?_) (fun hc_30 => ?_)
    · obtain rfl : j = 10 := by omega
      refine aw_pk [2, 0, 1] (by rfl) ?_
      exact hKK hmo hM hV hC
    · exact absurd hc_30 (by omega)
  | y + 1, j, hy, V, z, hmo, hM, hV, hC => by
    have IH := fun j hj => @td_ki d g V0 mo sz r κ i ar ac wd zs Q hi hKK y j hj
    refine aw_iload_n dX6_kernel_27 (by rfl) ?_
    refine aw_bipushZ dX6_kernel_28 (by decide) ?_
    refine aw_icmp_geZ (tgt := 63) dX6_kernel_30 (by decide) (by omega) (by omega) (fun hc_30 => ?_) (fun hc_30 => ?_)
    · exact absurd hc_30 (by omega)
    · refine aw_aload_n dX6_kernel_33 (by rfl) (Or.inr ⟨_, rfl⟩) ?_
      refine aw_sipushZ dX6_kernel_34 (by decide) ?_
      refine aw_bipushZ dX6_kernel_37 (by decide) ?_
      refine aw_iload_n dX6_kernel_39 (by rfl) ?_
      refine aw_imulZ dX6_kernel_40 ?_
      refine aw_iaddZ dX6_kernel_41 ?_
      refine aw_iload_n dX6_kernel_42 (by rfl) ?_
      refine aw_iaddZ dX6_kernel_43 ?_
      refine aw_topi (y := ((165 + 10 * i + j : Nat) : Int)) (by omega) ?_
      refine aw_sipushZ dX6_kernel_44 (by decide) ?_
      refine aw_bipushZ dX6_kernel_47 (by decide) ?_
      refine aw_iload_n dX6_kernel_49 (by rfl) ?_
      refine aw_imulZ dX6_kernel_50 ?_
      refine aw_iaddZ dX6_kernel_51 ?_
      refine aw_iload_n dX6_kernel_52 (by rfl) ?_
      refine aw_iaddZ dX6_kernel_53 ?_
      refine aw_topi (y := ((265 + 10 * i + j : Nat) : Int)) (by omega) ?_
      refine aw_callv vX6_67 dX6_kernel_54 hmo (m_copies g (d + 8) (a := 165 + 10 * i + j) (c := 265 + 10 * i + j) ⟨_, _, ar, ac, hmo⟩ hM (by omega) (by omega)) (by rfl) (by rfl) (by omega) (Nat.le_of_ble_eq_true rfl) ?_
      rintro _ V1 _ _ _ ⟨rfl, rfl, rfl, hE1, rfl, hM1⟩ -
      refine q0 ?_
      refine aw_iincZ dX6_kernel_57 (by rfl) (by decide) ?_
      refine aw_goto (tgt := 27) dX6_kernel_60 (by decide) ?_
      rw [show ((j : Int) + 1) = ((j + 1 : Nat) : Int) by omega]
      refine aw_pk [3, 2, 0, 1] (by rfl) ?_
      exact IH (j + 1) (by omega) ((hE1 mo (by unfold EN; omega)).trans hmo) hM1 (fun a ha => (hE1 a ha).trans (hV a ha)) (hC.up (by omega) (by omega) (by omega) rfl (by omega))
theorem td_ko (d : Nat) {g : GX} {V0 : AH} {mo sz r κ : Nat} {ar ac wd : Int} {zs : Nat → Int} {Q : AQ} (hr : κ ≤ 10)
    (hKK : ∀ {V : AH} {z : Nat → Int}, V mo = some (moO mo r κ ar ac) → MN g mo V z → (∀ a, ¬ EN mo a → V a = V0 a) → TdI (fun a b => 165 + 10 * a + b) 10 zs z κ 0 → AW g mX6_kernel (d + 9) 69 [(0, .ref mo), (1, .int (iZ wd))] [] V sz Q) : ∀ (y i : Nat), i + y = κ → ∀ {V : AH} {z : Nat → Int}, V mo = some (moO mo r κ ar ac) → MN g mo V z → (∀ a, ¬ EN mo a → V a = V0 a) → TdI (fun a b => 165 + 10 * a + b) 10 zs z i 0 → AW g mX6_kernel (d + 9) 17 [(2, .int (iZ i)), (0, .ref mo), (1, .int (iZ wd))] [] V sz Q
  | 0, i, hy, V, z, hmo, hM, hV, hC => by
    refine aw_iload_n dX6_kernel_17 (by rfl) ?_
    refine aw_aload_n dX6_kernel_18 (by rfl) (Or.inr ⟨_, rfl⟩) ?_
    refine aw_get fX6_131 dX6_kernel_19 hmo (by rfl) ?_
    refine aw_icmp_geZ (tgt := 69) dX6_kernel_22 (by decide) (by omega) (by omega) (fun hc_22 => ?_) (fun hc_22 => ?_)
    · obtain rfl : i = κ := by omega
      refine aw_pk [0, 1] (by rfl) ?_
      exact hKK hmo hM hV hC
    · exact absurd hc_22 (by omega)
  | y + 1, i, hy, V, z, hmo, hM, hV, hC => by
    have IH := fun i hi => @td_ko d g V0 mo sz r κ ar ac wd zs Q hr hKK y i hi
    refine aw_iload_n dX6_kernel_17 (by rfl) ?_
    refine aw_aload_n dX6_kernel_18 (by rfl) (Or.inr ⟨_, rfl⟩) ?_
    refine aw_get fX6_131 dX6_kernel_19 hmo (by rfl) ?_
    refine aw_icmp_geZ (tgt := 69) dX6_kernel_22 (by decide) (by omega) (by omega) (fun hc_22 => ?_) (fun hc_22 => ?_)
    · exact absurd hc_22 (by omega)
    · refine aw_iconstZ dX6_kernel_25 ?_
      refine aw_istore_n dX6_kernel_26 (by decide) ?_
      refine aw_pk [3, 2, 0, 1] (by rfl) ?_
      refine td_ki d (V0 := V0) (zs := zs) (r := r) (κ := κ) (by omega) (fun {V2 z2} hmo2 hM2 hV2 hC2 => ?_) 10 0 (by omega) hmo hM hV hC
      refine aw_iincZ dX6_kernel_63 (by rfl) (by decide) ?_
      refine aw_goto (tgt := 17) dX6_kernel_66 (by decide) ?_
      rw [show ((i : Int) + 1) = ((i + 1 : Nat) : Int) by omega]
      refine aw_pk [2, 0, 1] (by rfl) ?_
      exact IH (i + 1) (by omega) hmo2 hM2 hV2 hC2.out
theorem m_kernel (g : GX) (d : Nat) {V : AH} {mo sz : Nat} {zs : Nat → Int} {S : TSt} {A : ASt} {t : Int} (hR : RX g mo V zs S A) (ht : R32 t) : AMet g mX6_kernel (d + 9) [.ref mo, .int (iZ t)] V sz (RE g mo V sz (fun q S' A' => S' = S ∧ ((∃ (n h1 : Nat) (l1 : Nat → Nat) (B : Mat), n < 12 ∧ t = (n : Int) ∧ 0 < S.r n ∧ Stair B h1 (S.r n) l1 ∧ (∀ x, Span B h1 (S.r n) x ↔ KerP (S.N n) (S.r n) (S.c n) x) ∧ some (.int (iZ h1)) = q ∧ AIs A' h1 (S.r n) B) ∨ ((∀ n : Nat, n < 12 → t = (n : Int) → S.r n = 0) ∧ some (.int (iZ (-1))) = q ∧ A' = A)))) := by
  obtain ⟨⟨rk, kn, hmo⟩, -, -, -, -, -, hT, -, -, hTO, -⟩ := id hR
  refine AMet.of rfl rfl (Nat.le_of_ble_eq_true rfl) ?_
  show AW g mX6_kernel (d + 9) 0 [(0, .ref mo), (1, .int (iZ t))] [] V sz _
  refine aw_aload_n dX6_kernel_0 (by rfl) (Or.inr ⟨_, rfl⟩) ?_
  refine aw_iload_n dX6_kernel_1 (by rfl) ?_
  refine aw_callv vX6_137 dX6_kernel_2 hmo (m_isTable g (d + 8) (t := t) hmo hT ht) (by rfl) (by rfl) (by omega) (Nat.le_of_ble_eq_true rfl) ?_
  rintro _ _ _ _ _ ⟨rfl, rfl, rfl, rfl, rfl⟩ -
  refine q0 ?_
  refine aw_if_neZ (tgt := 10) dX6_kernel_5 (by decide) (tbZ_R _ _) (fun hc_5 => ?_) (fun hc_5 => ?_)
  · obtain ⟨n, hn, rfl, hrn⟩ := tbZ_yes hc_5
    obtain ⟨o1, o2, -⟩ := hTO n hn
    refine aw_aload_n dX6_kernel_10 (by rfl) (Or.inr ⟨_, rfl⟩) ?_
    refine aw_iload_n dX6_kernel_11 (by rfl) ?_
    refine aw_callv vX6_165 dX6_kernel_12 hmo (m_stairOf g d (t := n) hR hn) (by rfl) (by rfl) (by omega) (Nat.le_of_ble_eq_true rfl) ?_
    rintro _ V1 _ _ _ ⟨rfl, rfl, rfl, hE1, rfl, r1, κ1, l1, lk1, z1, ⟨RW1, RK1, hmo1, hra1, hrk1, hl1, hlk1, hM1, hl51⟩, hst1, hsp1, hlc1, hln1, -, -, hn1, hF1⟩ -
    refine q0 ?_
    obtain ⟨TH, RR, CC, NN, HH, t1, t2, t3, t4, t5, t6⟩ := hT.kept (V' := V1) (fun a h1 h2 => hE1 a (by unfold EC; omega))
    refine aw_iconstZ dX6_kernel_15 ?_
    refine aw_istore_n dX6_kernel_16 (by decide) ?_
    refine aw_pk [2, 0, 1] (by rfl) ?_
    refine td_ko d (V0 := V1) (zs := z1) (r := r1) (κ := κ1) (by omega) (fun {V2 z2} hmo2 hM2 hV2 hC2 => ?_) κ1 0 (by omega) hmo1 hM1 (fun _ _ => rfl) TdI.nil
    refine aw_aload_n dX6_kernel_69 (by rfl) (Or.inr ⟨_, rfl⟩) ?_
    refine aw_aload_n dX6_kernel_70 (by rfl) (Or.inr ⟨_, rfl⟩) ?_
    refine aw_get fX6_131 dX6_kernel_71 hmo2 (by rfl) ?_
    refine aw_aload_n dX6_kernel_74 (by rfl) (Or.inr ⟨_, rfl⟩) ?_
    refine aw_get fX6_37 dX6_kernel_75 hmo2 (by rfl) ?_
    refine aw_iload_n dX6_kernel_78 (by rfl) ?_
    refine aw_ialdZ (n) dX6_kernel_79 ((hV2 _ (by unfold EN; omega)).trans t2) (by omega) (by omega) (by omega) ?_
    rw [(t6 n hn).2.1]
    refine aw_callv vX6_189 dX6_kernel_80 hmo2 (m_tells g (d + 8) (h := κ1) (w := S.r n) hmo2 (by omega)) (by rfl) (by rfl) (by omega) (Nat.le_of_ble_eq_true rfl) ?_
    rintro _ V3 _ _ _ ⟨rfl, rfl, rfl, hE3, rfl, hmo3⟩ -
    refine q0 ?_
    obtain ⟨s1, s2⟩ := kern_of hst1 hsp1 (cp_split hlc1)
    rw [show r1 + κ1 - r1 = κ1 by omega] at s1 s2
    refine aw_aload_n dX6_kernel_83 (by rfl) (Or.inr ⟨_, rfl⟩) ?_
    refine aw_get fX6_131 dX6_kernel_84 hmo3 (by rfl) ?_
    refine aw_iret dX6_kernel_87 rfl (by rfl) ?_
    refine ⟨rfl, rfl, rfl, fun a ha => (hE3 a (fun z => ha (by unfold EM; omega))).trans ((hV2 a (fun z => ha (by unfold EN at z; unfold EM; omega))).trans (hE1 a (fun z => ha (by unfold EC at z; unfold EM; omega)))), z2, S, _, hR.tell (h := κ1) (w := S.r n) (B := fun i j => CPx (S.c n) r1 z1 (r1 + i) (S.c n + j)) hmo3 ((hE3 _ (by omega)).trans ((hV2 _ (by unfold EN; omega)).trans hra1)) ((hE3 _ (by omega)).trans ((hV2 _ (by unfold EN; omega)).trans hrk1)) (fun a h1 h2 => (hE3 a (by omega)).trans ((hV2 a (by unfold EN; omega)).trans (hE1 a (by unfold EC; omega)))) (hM2.kept (fun a ha => hE3 a (by unfold EN at ha; omega))) (fun i j hi hj => ?_) (by omega) o1, rfl, Or.inl ⟨n, κ1, _, _, hn, rfl, hrn, s1, s2, rfl, rfl, rfl, rfl, fun _ _ _ _ => rfl⟩⟩
    rw [hC2.1 i j (by omega), cp_k]
  · have hno := tbZ_no hc_5
    refine aw_iconstZ dX6_kernel_8 ?_
    refine aw_iret dX6_kernel_9 rfl (by rfl) ?_
    exact ⟨rfl, rfl, rfl, fun _ _ => rfl, zs, S, A, hR, rfl, Or.inr ⟨hno, rfl, rfl⟩⟩

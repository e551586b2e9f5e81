/-! ===== the reference: swaps, takesRow, turnsRow ===== -/
def SwZ (zs z' : Nat → Int) (a e n : Nat) : Prop := ∀ q, q ≠ 418 → z' q = if a ≤ q ∧ q < a + n then zs (e + (q - a)) else if e ≤ q ∧ q < e + n then zs (a + (q - e)) else zs q
theorem SwZ.step {zs z' : Nat → Int} {a e k N : Nat} (h : SwZ zs z' a e k) (hk : k < N) (hd : a + N ≤ e ∨ e + N ≤ a) (h1 : a + N ≤ 418) (h2 : e + N ≤ 418) : SwZ zs (upF (upF (upF z' 418 (z' (a + k))) (a + k) (upF z' 418 (z' (a + k)) (e + k))) (e + k) (upF (upF z' 418 (z' (a + k))) (a + k) (upF z' 418 (z' (a + k)) (e + k)) 418)) a e (k + 1) := fun q hq => by
  have ea : z' (a + k) = zs (a + k) := by rw [h (a + k) (by omega), if_neg (by omega), if_neg (by omega)]
  have ee : z' (e + k) = zs (e + k) := by rw [h (e + k) (by omega), if_neg (by omega), if_neg (by omega)]
  by_cases c1 : q = e + k
  · rw [c1, upF_self, upF_ne _ _ (show 418 ≠ a + k by omega), upF_self, ea, if_neg (by omega), if_pos (by omega), show e + k - e = k by omega]
  · rw [upF_ne _ _ c1]
    by_cases c2 : q = a + k
    · rw [c2, upF_self, upF_ne _ _ (show e + k ≠ 418 by omega), ee, if_pos (by omega), show a + k - a = k by omega]
    · rw [upF_ne _ _ c2, upF_ne _ _ hq, h q hq]
      by_cases c3 : a ≤ q ∧ q < a + k
      · rw [if_pos c3, if_pos (by omega)]
      · rw [if_neg c3, if_neg (show ¬ (a ≤ q ∧ q < a + (k + 1)) by omega)]
        by_cases c4 : e ≤ q ∧ q < e + k
        · rw [if_pos c4, if_pos (by omega)]
        · rw [if_neg c4, if_neg (by omega)]
abbrev mX6_swaps : MI := (yX6_swaps, cX6_swaps, 5, none, noX)
theorem dX6_swaps_0 : decode cX6_swaps 0 = .ok (.iconst 0, 1) := by decide +kernel
theorem dX6_swaps_1 : decode cX6_swaps 1 = .ok (.istore 4, 2) := by decide +kernel
theorem dX6_swaps_3 : decode cX6_swaps 3 = .ok (.iload 4, 2) := by decide +kernel
theorem dX6_swaps_5 : decode cX6_swaps 5 = .ok (.iload_n 3, 1) := by decide +kernel
theorem dX6_swaps_6 : decode cX6_swaps 6 = .ok (.if_icmp .ge 43, 3) := by decide +kernel
theorem dX6_swaps_9 : decode cX6_swaps 9 = .ok (.aload_n 0, 1) := by decide +kernel
theorem dX6_swaps_10 : decode cX6_swaps 10 = .ok (.iload_n 1, 1) := by decide +kernel
theorem dX6_swaps_11 : decode cX6_swaps 11 = .ok (.iload 4, 2) := by decide +kernel
theorem dX6_swaps_13 : decode cX6_swaps 13 = .ok (.iadd, 1) := by decide +kernel
theorem dX6_swaps_14 : decode cX6_swaps 14 = .ok (.sipush 418, 3) := by decide +kernel
theorem dX6_swaps_17 : decode cX6_swaps 17 = .ok (.invokevirtual 67, 3) := by decide +kernel
theorem dX6_swaps_20 : decode cX6_swaps 20 = .ok (.aload_n 0, 1) := by decide +kernel
theorem dX6_swaps_21 : decode cX6_swaps 21 = .ok (.iload_n 2, 1) := by decide +kernel
theorem dX6_swaps_22 : decode cX6_swaps 22 = .ok (.iload 4, 2) := by decide +kernel
theorem dX6_swaps_24 : decode cX6_swaps 24 = .ok (.iadd, 1) := by decide +kernel
theorem dX6_swaps_25 : decode cX6_swaps 25 = .ok (.iload_n 1, 1) := by decide +kernel
theorem dX6_swaps_26 : decode cX6_swaps 26 = .ok (.iload 4, 2) := by decide +kernel
theorem dX6_swaps_28 : decode cX6_swaps 28 = .ok (.iadd, 1) := by decide +kernel
theorem dX6_swaps_29 : decode cX6_swaps 29 = .ok (.invokevirtual 67, 3) := by decide +kernel
theorem dX6_swaps_32 : decode cX6_swaps 32 = .ok (.aload_n 0, 1) := by decide +kernel
theorem dX6_swaps_33 : decode cX6_swaps 33 = .ok (.sipush 418, 3) := by decide +kernel
theorem dX6_swaps_36 : decode cX6_swaps 36 = .ok (.iload_n 2, 1) := by decide +kernel
theorem dX6_swaps_37 : decode cX6_swaps 37 = .ok (.iload 4, 2) := by decide +kernel
theorem dX6_swaps_39 : decode cX6_swaps 39 = .ok (.iadd, 1) := by decide +kernel
theorem dX6_swaps_40 : decode cX6_swaps 40 = .ok (.invokevirtual 67, 3) := by decide +kernel
theorem dX6_swaps_43 : decode cX6_swaps 43 = .ok (.iinc 4 1, 3) := by decide +kernel
theorem dX6_swaps_46 : decode cX6_swaps 46 = .ok (.goto (-43), 3) := by decide +kernel
theorem dX6_swaps_49 : decode cX6_swaps 49 = .ok (.return_, 1) := by decide +kernel
theorem sw_loop (g : GX) (d : Nat) {mo sz a e n : Nat} {rk kn ar ac : Int} {zs : Nat → Int} (hd : a + n ≤ e ∨ e + n ≤ a) (h1 : a + n ≤ 418) (h2 : e + n ≤ 418) : ∀ (y k : Nat), k + y = n → ∀ {V : AH} {z' : Nat → Int}, V mo = some (moO mo rk kn ar ac) → MN g mo V z' → SwZ zs z' a e k → AW g mX6_swaps (d + 1) 3 [(4, .int (iZ k)), (0, .ref mo), (1, .int (iZ a)), (2, .int (iZ e)), (3, .int (iZ n))] [] V sz (VX V sz (EN mo) (fun q V' => none = q ∧ ∃ z', MN g mo V' z' ∧ SwZ zs z' a e n))
  | 0, k, hy, V, z', hmo, hM, hS => by
    refine aw_iload dX6_swaps_3 (by rfl) ?_
    refine aw_iload_n dX6_swaps_5 (by rfl) ?_
    refine aw_icmp_geZ (tgt := 49) dX6_swaps_6 (by decide) (by omega) (by omega) (fun hc_6 => ?_) (fun hc_6 => ?_)
    · refine aw_ret dX6_swaps_49 rfl ?_
      obtain rfl : k = n := by omega
      exact VX.ret ⟨rfl, z', hM, hS⟩
    · exact absurd hc_6 (by omega)
  | y + 1, k, hy, V, z', hmo, hM, hS => by
    have IH := fun k hk => @sw_loop g d mo sz a e n rk kn ar ac zs hd h1 h2 y k hk
    refine aw_iload dX6_swaps_3 (by rfl) ?_
    refine aw_iload_n dX6_swaps_5 (by rfl) ?_
    refine aw_icmp_geZ (tgt := 49) dX6_swaps_6 (by decide) (by omega) (by omega) (fun hc_6 => ?_) (fun hc_6 => ?_)
    · exact absurd hc_6 (by omega)
    · refine aw_aload_n dX6_swaps_9 (by rfl) (Or.inr ⟨_, rfl⟩) ?_
      refine aw_iload_n dX6_swaps_10 (by rfl) ?_
      refine aw_iload dX6_swaps_11 (by rfl) ?_
      refine aw_iaddZ dX6_swaps_13 ?_
      refine aw_topi (y := ((a + k : Nat) : Int)) (by omega) ?_
      refine aw_sipushZ dX6_swaps_14 (by decide) ?_
      refine aw_topi (y := ((418 : Nat) : Int)) (by omega) ?_
      refine aw_callv vX6_67 dX6_swaps_17 hmo (m_copies g d (a := a + k) (c := 418) ⟨rk, kn, ar, ac, hmo⟩ hM (by omega) (by omega)) (by rfl) (by rfl) (by omega) (Nat.le_of_ble_eq_true rfl) ?_
      rintro _ V1 _ _ _ ⟨rfl, rfl, rfl, hE1, rfl, hM1⟩ -
      refine VX.call hE1 ?_
      have hmo1 := (hE1 mo (by unfold EN; omega)).trans hmo
      refine aw_aload_n dX6_swaps_20 (by rfl) (Or.inr ⟨_, rfl⟩) ?_
      refine aw_iload_n dX6_swaps_21 (by rfl) ?_
      refine aw_iload dX6_swaps_22 (by rfl) ?_
      refine aw_iaddZ dX6_swaps_24 ?_
      refine aw_topi (y := ((e + k : Nat) : Int)) (by omega) ?_
      refine aw_iload_n dX6_swaps_25 (by rfl) ?_
      refine aw_iload dX6_swaps_26 (by rfl) ?_
      refine aw_iaddZ dX6_swaps_28 ?_
      refine aw_topi (y := ((a + k : Nat) : Int)) (by omega) ?_
      refine aw_callv vX6_67 dX6_swaps_29 hmo1 (m_copies g d (a := e + k) (c := a + k) ⟨rk, kn, ar, ac, hmo1⟩ hM1 (by omega) (by omega)) (by rfl) (by rfl) (by omega) (Nat.le_of_ble_eq_true rfl) ?_
      rintro _ V2 _ _ _ ⟨rfl, rfl, rfl, hE2, rfl, hM2⟩ -
      refine VX.call hE2 ?_
      have hmo2 := (hE2 mo (by unfold EN; omega)).trans hmo1
      refine aw_aload_n dX6_swaps_32 (by rfl) (Or.inr ⟨_, rfl⟩) ?_
      refine aw_sipushZ dX6_swaps_33 (by decide) ?_
      refine aw_iload_n dX6_swaps_36 (by rfl) ?_
      refine aw_iload dX6_swaps_37 (by rfl) ?_
      refine aw_iaddZ dX6_swaps_39 ?_
      refine aw_topi (y := ((e + k : Nat) : Int)) (by omega) ?_
      refine aw_callv vX6_67 dX6_swaps_40 hmo2 (m_copies g d (a := 418) (c := e + k) ⟨rk, kn, ar, ac, hmo2⟩ hM2 (by omega) (by omega)) (by rfl) (by rfl) (by omega) (Nat.le_of_ble_eq_true rfl) ?_
      rintro _ V3 _ _ _ ⟨rfl, rfl, rfl, hE3, rfl, hM3⟩ -
      refine VX.call hE3 ?_
      have hmo3 := (hE3 mo (by unfold EN; omega)).trans hmo2
      refine aw_iincZ dX6_swaps_43 (by rfl) (by decide) ?_
      refine aw_goto (tgt := 3) dX6_swaps_46 (by decide) ?_
      rw [show ((k : Int) + 1) = ((k + 1 : Nat) : Int) by omega]
      refine aw_pk [4, 0, 1, 2, 3] (by rfl) ?_
      exact IH (k + 1) (by omega) hmo3 hM3 (hS.step (N := n) (by omega) hd h1 h2)
theorem m_swaps (g : GX) (d : Nat) {V : AH} {mo sz a e n : Nat} {zs : Nat → Int} (hm : moV mo V) (h : MN g mo V zs) (hd : a + n ≤ e ∨ e + n ≤ a) (h1 : a + n ≤ 418) (h2 : e + n ≤ 418) : AMet g mX6_swaps (d + 1) [.ref mo, .int (iZ a), .int (iZ e), .int (iZ n)] V sz (VX V sz (EN mo) (fun q V' => none = q ∧ ∃ z', MN g mo V' z' ∧ SwZ zs z' a e n)) := by
  obtain ⟨rk, kn, ar, ac, hmo⟩ := hm
  refine AMet.of rfl rfl (Nat.le_of_ble_eq_true rfl) ?_
  show AW g mX6_swaps (d + 1) 0 [(0, .ref mo), (1, .int (iZ a)), (2, .int (iZ e)), (3, .int (iZ n))] [] V sz _
  refine aw_iconstZ dX6_swaps_0 ?_
  refine aw_istore dX6_swaps_1 (by decide) ?_
  refine aw_pk [4, 0, 1, 2, 3] (by rfl) ?_
  exact sw_loop g d hd h1 h2 n 0 (by omega) hmo h (fun q hq => by rw [if_neg (by omega), if_neg (by omega)])
abbrev mX6_turnsRow : MI := (yX6_turnsRow, cX6_turnsRow, 4, none, noX)
theorem dX6_turnsRow_0 : decode cX6_turnsRow 0 = .ok (.iconst 0, 1) := by decide +kernel
theorem dX6_turnsRow_1 : decode cX6_turnsRow 1 = .ok (.istore_n 3, 1) := by decide +kernel
theorem dX6_turnsRow_2 : decode cX6_turnsRow 2 = .ok (.iload_n 3, 1) := by decide +kernel
theorem dX6_turnsRow_3 : decode cX6_turnsRow 3 = .ok (.iload_n 2, 1) := by decide +kernel
theorem dX6_turnsRow_4 : decode cX6_turnsRow 4 = .ok (.if_icmp .ge 26, 3) := by decide +kernel
theorem dX6_turnsRow_7 : decode cX6_turnsRow 7 = .ok (.aload_n 0, 1) := by decide +kernel
theorem dX6_turnsRow_8 : decode cX6_turnsRow 8 = .ok (.getfield 17, 3) := by decide +kernel
theorem dX6_turnsRow_11 : decode cX6_turnsRow 11 = .ok (.iload_n 1, 1) := by decide +kernel
theorem dX6_turnsRow_12 : decode cX6_turnsRow 12 = .ok (.iload_n 3, 1) := by decide +kernel
theorem dX6_turnsRow_13 : decode cX6_turnsRow 13 = .ok (.iadd, 1) := by decide +kernel
theorem dX6_turnsRow_14 : decode cX6_turnsRow 14 = .ok (.aload_n 0, 1) := by decide +kernel
theorem dX6_turnsRow_15 : decode cX6_turnsRow 15 = .ok (.getfield 17, 3) := by decide +kernel
theorem dX6_turnsRow_18 : decode cX6_turnsRow 18 = .ok (.iload_n 1, 1) := by decide +kernel
theorem dX6_turnsRow_19 : decode cX6_turnsRow 19 = .ok (.iload_n 3, 1) := by decide +kernel
theorem dX6_turnsRow_20 : decode cX6_turnsRow 20 = .ok (.iadd, 1) := by decide +kernel
theorem dX6_turnsRow_21 : decode cX6_turnsRow 21 = .ok (.iaload, 1) := by decide +kernel
theorem dX6_turnsRow_22 : decode cX6_turnsRow 22 = .ok (.ineg, 1) := by decide +kernel
theorem dX6_turnsRow_23 : decode cX6_turnsRow 23 = .ok (.iastore, 1) := by decide +kernel
theorem dX6_turnsRow_24 : decode cX6_turnsRow 24 = .ok (.iinc 3 1, 3) := by decide +kernel
theorem dX6_turnsRow_27 : decode cX6_turnsRow 27 = .ok (.goto (-25), 3) := by decide +kernel
theorem dX6_turnsRow_30 : decode cX6_turnsRow 30 = .ok (.return_, 1) := by decide +kernel
theorem tn_loop (g : GX) (d : Nat) {mo sz a n : Nat} {rk kn ar ac : Int} {zs : Nat → Int} (h1 : a + n ≤ 460) : ∀ (y k : Nat), k + y = n → ∀ {V : AH}, V mo = some (moO mo rk kn ar ac) → MN g mo V (fun q => if a ≤ q ∧ q < a + k then - zs q else zs q) → AW g mX6_turnsRow d 2 [(3, .int (iZ k)), (0, .ref mo), (1, .int (iZ a)), (2, .int (iZ n))] [] V sz (VX V sz (EN mo) (fun q V' => none = q ∧ MN g mo V' (fun q => if a ≤ q ∧ q < a + n then - zs q else zs q)))
  | 0, k, hy, V, hmo, hM => by
    refine aw_iload_n dX6_turnsRow_2 (by rfl) ?_
    refine aw_iload_n dX6_turnsRow_3 (by rfl) ?_
    refine aw_icmp_geZ (tgt := 30) dX6_turnsRow_4 (by decide) (by omega) (by omega) (fun hc_4 => ?_) (fun hc_4 => ?_)
    · refine aw_ret dX6_turnsRow_30 rfl ?_
      obtain rfl : k = n := by omega
      exact VX.ret ⟨rfl, hM⟩
    · exact absurd hc_4 (by omega)
  | y + 1, k, hy, V, hmo, hM => by
    have IH := fun k hk => @tn_loop g d mo sz a n rk kn ar ac zs h1 y k hk
    obtain ⟨D, LN, SG, O1, O2, hA, h0⟩ := hM
    replace h0 : ∀ q, q < 460 → NuV D LN SG q (if a ≤ q ∧ q < a + k then - zs q else zs q) := h0
    refine aw_iload_n dX6_turnsRow_2 (by rfl) ?_
    refine aw_iload_n dX6_turnsRow_3 (by rfl) ?_
    refine aw_icmp_geZ (tgt := 30) dX6_turnsRow_4 (by decide) (by omega) (by omega) (fun hc_4 => ?_) (fun hc_4 => ?_)
    · exact absurd hc_4 (by omega)
    · refine aw_aload_n dX6_turnsRow_7 (by rfl) (Or.inr ⟨_, rfl⟩) ?_
      refine aw_get fX6_17 dX6_turnsRow_8 hmo (by rfl) ?_
      refine aw_iload_n dX6_turnsRow_11 (by rfl) ?_
      refine aw_iload_n dX6_turnsRow_12 (by rfl) ?_
      refine aw_iaddZ dX6_turnsRow_13 ?_
      refine aw_aload_n dX6_turnsRow_14 (by rfl) (Or.inr ⟨_, rfl⟩) ?_
      refine aw_get fX6_17 dX6_turnsRow_15 hmo (by rfl) ?_
      refine aw_iload_n dX6_turnsRow_18 (by rfl) ?_
      refine aw_iload_n dX6_turnsRow_19 (by rfl) ?_
      refine aw_iaddZ dX6_turnsRow_20 ?_
      refine aw_ialdZ (a + k) dX6_turnsRow_21 hA.2.2.1 (by omega) (by omega) (by omega) ?_
      refine aw_inegZ dX6_turnsRow_22 ?_
      refine aw_iastZ (a + k) dX6_turnsRow_23 hA.2.2.1 (by omega) (by omega) (by omega) ?_
      refine aw_iincZ dX6_turnsRow_24 (by rfl) (by decide) ?_
      refine aw_goto (tgt := 2) dX6_turnsRow_27 (by decide) ?_
      refine VX.stp (V1 := AHu V (mo + 3) _) (fun a ha => AHu_ne (fun q => ha (by unfold EN; omega))) ?_
      rw [show ((k : Int) + 1) = ((k + 1 : Nat) : Int) by omega]
      refine aw_pk [3, 0, 1, 2] (by rfl) ?_
      refine IH (k + 1) (by omega) ((AHu_ne (by omega)).trans hmo) ⟨D, LN, _, O1, O2, hA.s, fun q hq => ?_⟩
      show NuV D LN _ q (if a ≤ q ∧ q < a + (k + 1) then - zs q else zs q)
      by_cases c1 : q = a + k
      · obtain ⟨w, a1, a2, a3, a4, a5, a6⟩ := h0 q hq
        rw [if_neg (by omega)] at a3 a5
        rw [if_pos (by omega)]
        refine ⟨w, a1, a2, ?_, a4, by rw [a5, Int.natAbs_neg], a6⟩
        rw [← c1, upF_self, a3, Int.sign_neg]
      · have := (h0 q hq).kept (D' := D) (LN' := LN) (SG' := upF SG (a + k) (- SG (a + k))) (fun _ _ => rfl) rfl (upF_ne _ _ c1)
        by_cases c2 : a ≤ q ∧ q < a + k
        · rw [if_pos c2] at this; rw [if_pos (by omega)]; exact this
        · rw [if_neg c2] at this; rw [if_neg (by omega)]; exact this
theorem m_turnsRow (g : GX) (d : Nat) {V : AH} {mo sz a n : Nat} {zs : Nat → Int} (hm : moV mo V) (h : MN g mo V zs) (h1 : a + n ≤ 460) : AMet g mX6_turnsRow d [.ref mo, .int (iZ a), .int (iZ n)] V sz (VX V sz (EN mo) (fun q V' => none = q ∧ MN g mo V' (fun q => if a ≤ q ∧ q < a + n then - zs q else zs q))) := by
  obtain ⟨rk, kn, ar, ac, hmo⟩ := hm
  have hM : MN g mo V (fun q => if a ≤ q ∧ q < a + 0 then - zs q else zs q) := by
    rw [show (fun q => if a ≤ q ∧ q < a + 0 then - zs q else zs q) = zs from funext (fun q => if_neg (by omega))]
    exact h
  refine AMet.of rfl rfl (Nat.le_of_ble_eq_true rfl) ?_
  show AW g mX6_turnsRow d 0 [(0, .ref mo), (1, .int (iZ a)), (2, .int (iZ n))] [] V sz _
  refine aw_iconstZ dX6_turnsRow_0 ?_
  refine aw_istore_n dX6_turnsRow_1 (by decide) ?_
  refine aw_pk [3, 0, 1, 2] (by rfl) ?_
  exact tn_loop g d h1 n 0 (by omega) hmo hM

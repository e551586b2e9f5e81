/-! ===== the reference: takesRow ===== -/
def TkZ (zs z' : Nat → Int) (a e n f : Nat) : Prop := ∀ q, q ≠ 417 → z' q = if a ≤ q ∧ q < a + n then zs q - zs f * zs (e + (q - a)) else zs q
theorem TkZ.same {zs z' : Nat → Int} {a e k f : Nat} (h : TkZ zs z' a e k f) (h0 : zs f * zs (e + k) = 0) : TkZ zs z' a e (k + 1) f := fun q hq => by
  rw [h q hq]
  by_cases c1 : q = a + k
  · rw [c1, if_neg (by omega), if_pos (by omega), show a + k - a = k by omega, h0, Int.sub_zero]
  · by_cases c2 : a ≤ q ∧ q < a + k
    · rw [if_pos c2, if_pos (by omega)]
    · rw [if_neg c2, if_neg (by omega)]
theorem TkZ.step {zs z' : Nat → Int} {a e k f : Nat} (h : TkZ zs z' a e k f) : TkZ zs (upF (upF z' 417 (zs f * zs (e + k))) (a + k) (zs (a + k) - zs f * zs (e + k))) a e (k + 1) f := fun q hq => by
  by_cases c1 : q = a + k
  · rw [c1, upF_self, if_pos (by omega), show a + k - a = k by omega]
  · rw [upF_ne _ _ c1, upF_ne _ _ hq, h q hq]
    by_cases c2 : a ≤ q ∧ q < a + k
    · rw [if_pos c2, if_pos (by omega)]
    · rw [if_neg c2, if_neg (by omega)]
abbrev mX6_takesRow : MI := (yX6_takesRow, cX6_takesRow, 6, none, noX)
theorem dX6_takesRow_0 : decode cX6_takesRow 0 = .ok (.aload_n 0, 1) := by decide +kernel
theorem dX6_takesRow_1 : decode cX6_takesRow 1 = .ok (.getfield 17, 3) := by decide +kernel
theorem dX6_takesRow_4 : decode cX6_takesRow 4 = .ok (.iload 4, 2) := by decide +kernel
theorem dX6_takesRow_6 : decode cX6_takesRow 6 = .ok (.iaload, 1) := by decide +kernel
theorem dX6_takesRow_7 : decode cX6_takesRow 7 = .ok (.ifCond .ne 4, 3) := by decide +kernel
theorem dX6_takesRow_10 : decode cX6_takesRow 10 = .ok (.return_, 1) := by decide +kernel
theorem dX6_takesRow_11 : decode cX6_takesRow 11 = .ok (.iconst 0, 1) := by decide +kernel
theorem dX6_takesRow_12 : decode cX6_takesRow 12 = .ok (.istore 5, 2) := by decide +kernel
theorem dX6_takesRow_14 : decode cX6_takesRow 14 = .ok (.iload 5, 2) := by decide +kernel
theorem dX6_takesRow_16 : decode cX6_takesRow 16 = .ok (.iload_n 3, 1) := by decide +kernel
theorem dX6_takesRow_17 : decode cX6_takesRow 17 = .ok (.if_icmp .ge 52, 3) := by decide +kernel
theorem dX6_takesRow_20 : decode cX6_takesRow 20 = .ok (.aload_n 0, 1) := by decide +kernel
theorem dX6_takesRow_21 : decode cX6_takesRow 21 = .ok (.getfield 17, 3) := by decide +kernel
theorem dX6_takesRow_24 : decode cX6_takesRow 24 = .ok (.iload_n 2, 1) := by decide +kernel
theorem dX6_takesRow_25 : decode cX6_takesRow 25 = .ok (.iload 5, 2) := by decide +kernel
theorem dX6_takesRow_27 : decode cX6_takesRow 27 = .ok (.iadd, 1) := by decide +kernel
theorem dX6_takesRow_28 : decode cX6_takesRow 28 = .ok (.iaload, 1) := by decide +kernel
theorem dX6_takesRow_29 : decode cX6_takesRow 29 = .ok (.ifCond .ne 6, 3) := by decide +kernel
theorem dX6_takesRow_32 : decode cX6_takesRow 32 = .ok (.goto 31, 3) := by decide +kernel
theorem dX6_takesRow_35 : decode cX6_takesRow 35 = .ok (.aload_n 0, 1) := by decide +kernel
theorem dX6_takesRow_36 : decode cX6_takesRow 36 = .ok (.iload 4, 2) := by decide +kernel
theorem dX6_takesRow_38 : decode cX6_takesRow 38 = .ok (.iload_n 2, 1) := by decide +kernel
theorem dX6_takesRow_39 : decode cX6_takesRow 39 = .ok (.iload 5, 2) := by decide +kernel
theorem dX6_takesRow_41 : decode cX6_takesRow 41 = .ok (.iadd, 1) := by decide +kernel
theorem dX6_takesRow_42 : decode cX6_takesRow 42 = .ok (.sipush 417, 3) := by decide +kernel
theorem dX6_takesRow_45 : decode cX6_takesRow 45 = .ok (.invokevirtual 97, 3) := by decide +kernel
theorem dX6_takesRow_48 : decode cX6_takesRow 48 = .ok (.aload_n 0, 1) := by decide +kernel
theorem dX6_takesRow_49 : decode cX6_takesRow 49 = .ok (.iload_n 1, 1) := by decide +kernel
theorem dX6_takesRow_50 : decode cX6_takesRow 50 = .ok (.iload 5, 2) := by decide +kernel
theorem dX6_takesRow_52 : decode cX6_takesRow 52 = .ok (.iadd, 1) := by decide +kernel
theorem dX6_takesRow_53 : decode cX6_takesRow 53 = .ok (.sipush 417, 3) := by decide +kernel
theorem dX6_takesRow_56 : decode cX6_takesRow 56 = .ok (.iload_n 1, 1) := by decide +kernel
theorem dX6_takesRow_57 : decode cX6_takesRow 57 = .ok (.iload 5, 2) := by decide +kernel
theorem dX6_takesRow_59 : decode cX6_takesRow 59 = .ok (.iadd, 1) := by decide +kernel
theorem dX6_takesRow_60 : decode cX6_takesRow 60 = .ok (.invokevirtual 94, 3) := by decide +kernel
theorem dX6_takesRow_63 : decode cX6_takesRow 63 = .ok (.iinc 5 1, 3) := by decide +kernel
theorem dX6_takesRow_66 : decode cX6_takesRow 66 = .ok (.goto (-52), 3) := by decide +kernel
theorem dX6_takesRow_69 : decode cX6_takesRow 69 = .ok (.return_, 1) := by decide +kernel
theorem tk_loop (g : GX) (d : Nat) {mo sz a e n f : Nat} {rk kn ar ac : Int} {zs : Nat → Int} (hd : a + n ≤ e ∨ e + n ≤ a) (h1 : (a + n ≤ 417 ∨ 418 ≤ a) ∧ a + n ≤ 460) (h2 : (e + n ≤ 417 ∨ 418 ≤ e) ∧ e + n ≤ 460) (hf : f < 460 ∧ f ≠ 417 ∧ (f < a ∨ a + n ≤ f)) (hb1 : ∀ k, k < n → SmM (zs f * zs (e + k))) (hb2 : ∀ k, k < n → SmM (zs (a + k) - zs f * zs (e + k))) : ∀ (y k : Nat), k + y = n → ∀ {V : AH} {z' : Nat → Int}, V mo = some (moO mo rk kn ar ac) → MN g mo V z' → TkZ zs z' a e k f → AW g mX6_takesRow (d + 2) 14 [(5, .int (iZ k)), (0, .ref mo), (1, .int (iZ a)), (2, .int (iZ e)), (3, .int (iZ n)), (4, .int (iZ f))] [] V sz (VX V sz (EN mo) (fun q V' => none = q ∧ ∃ z', MN g mo V' z' ∧ TkZ zs z' a e n f))
  | 0, k, hy, V, z', hmo, hM, hS => by
    refine aw_iload dX6_takesRow_14 (by rfl) ?_
    refine aw_iload_n dX6_takesRow_16 (by rfl) ?_
    refine aw_icmp_geZ (tgt := 69) dX6_takesRow_17 (by decide) (by omega) (by omega) (fun hc_17 => ?_) (fun hc_17 => ?_)
    · refine aw_ret dX6_takesRow_69 rfl ?_
      obtain rfl : k = n := by omega
      exact VX.ret ⟨rfl, z', hM, hS⟩
    · exact absurd hc_17 (by omega)
  | y + 1, k, hy, V, z', hmo, hM, hS => by
    have IH := fun k hk => @tk_loop g d mo sz a e n f rk kn ar ac zs hd h1 h2 hf hb1 hb2 y k hk
    have ea : z' (a + k) = zs (a + k) := by rw [hS (a + k) (by omega), if_neg (by omega)]
    have ee : z' (e + k) = zs (e + k) := by rw [hS (e + k) (by omega), if_neg (by omega)]
    have ef : z' f = zs f := by rw [hS f (by omega), if_neg (by omega)]
    obtain ⟨D, LN, SG, O1, O2, hA, h0⟩ := id hM
    obtain ⟨_, _, _, hsg, _, _, _⟩ := h0 (e + k) (by omega)
    refine aw_iload dX6_takesRow_14 (by rfl) ?_
    refine aw_iload_n dX6_takesRow_16 (by rfl) ?_
    refine aw_icmp_geZ (tgt := 69) dX6_takesRow_17 (by decide) (by omega) (by omega) (fun hc_17 => ?_) (fun hc_17 => ?_)
    · exact absurd hc_17 (by omega)
    · refine aw_aload_n dX6_takesRow_20 (by rfl) (Or.inr ⟨_, rfl⟩) ?_
      refine aw_get fX6_17 dX6_takesRow_21 hmo (by rfl) ?_
      refine aw_iload_n dX6_takesRow_24 (by rfl) ?_
      refine aw_iload dX6_takesRow_25 (by rfl) ?_
      refine aw_iaddZ dX6_takesRow_27 ?_
      refine aw_ialdZ (e + k) dX6_takesRow_28 hA.2.2.1 (by omega) (by omega) (by omega) ?_
      refine aw_if_neZ (tgt := 35) dX6_takesRow_29 (by decide) (by rw [hsg]; exact sgn_R _) (fun hc_29 => ?_) (fun hc_29 => ?_)
      · refine aw_aload_n dX6_takesRow_35 (by rfl) (Or.inr ⟨_, rfl⟩) ?_
        refine aw_iload dX6_takesRow_36 (by rfl) ?_
        refine aw_iload_n dX6_takesRow_38 (by rfl) ?_
        refine aw_iload dX6_takesRow_39 (by rfl) ?_
        refine aw_iaddZ dX6_takesRow_41 ?_
        refine aw_topi (y := ((e + k : Nat) : Int)) (by omega) ?_
        refine aw_sipushZ dX6_takesRow_42 (by decide) ?_
        refine aw_topi (y := ((417 : Nat) : Int)) (by omega) ?_
        refine aw_callv vX6_97 dX6_takesRow_45 hmo (m_multiplies g d (a := f) (e := e + k) (c := 417) ⟨rk, kn, ar, ac, hmo⟩ hM (by omega) (by omega) (by omega) (by rw [ef, ee]; exact hb1 k (by omega))) (by rfl) (by rfl) (by omega) (Nat.le_of_ble_eq_true rfl) ?_
        rintro _ V1 _ _ _ ⟨rfl, rfl, rfl, hE1, rfl, hM1⟩ -
        refine VX.call hE1 ?_
        have hmo1 := (hE1 mo (by unfold EN; omega)).trans hmo
        rw [ef, ee] at hM1
        refine aw_aload_n dX6_takesRow_48 (by rfl) (Or.inr ⟨_, rfl⟩) ?_
        refine aw_iload_n dX6_takesRow_49 (by rfl) ?_
        refine aw_iload dX6_takesRow_50 (by rfl) ?_
        refine aw_iaddZ dX6_takesRow_52 ?_
        refine aw_topi (y := ((a + k : Nat) : Int)) (by omega) ?_
        refine aw_sipushZ dX6_takesRow_53 (by decide) ?_
        refine aw_topi (y := ((417 : Nat) : Int)) (by omega) ?_
        refine aw_iload_n dX6_takesRow_56 (by rfl) ?_
        refine aw_iload dX6_takesRow_57 (by rfl) ?_
        refine aw_iaddZ dX6_takesRow_59 ?_
        refine aw_topi (y := ((a + k : Nat) : Int)) (by omega) ?_
        refine aw_callv vX6_94 dX6_takesRow_60 hmo1 (m_less g d (a := a + k) (e := 417) (c := a + k) ⟨rk, kn, ar, ac, hmo1⟩ hM1 (by omega) (by omega) (by omega) (by rw [upF_ne _ _ (by omega), upF_self, ea]; exact hb2 k (by omega))) (by rfl) (by rfl) (by omega) (Nat.le_of_ble_eq_true rfl) ?_
        rintro _ V2 _ _ _ ⟨rfl, rfl, rfl, hE2, rfl, hM2⟩ -
        refine VX.call hE2 ?_
        have hmo2 := (hE2 mo (by unfold EN; omega)).trans hmo1
        first
        | rw [upF_ne _ _ (show a + k ≠ 417 by omega), upF_self, ea] at hM2
        | skip
        refine aw_iincZ dX6_takesRow_63 (by rfl) (by decide) ?_
        refine aw_goto (tgt := 14) dX6_takesRow_66 (by decide) ?_
        rw [show ((k : Int) + 1) = ((k + 1 : Nat) : Int) by omega]
        refine aw_pk [5, 0, 1, 2, 3, 4] (by rfl) ?_
        first
        | exact IH (k + 1) (by omega) hmo2 hM2 hS.step
        | exact IH (k + 1) (by omega) hmo hM (hS.same (by rw [hz0, Int.mul_zero]))
      · have hz0 : zs (e + k) = 0 := by rw [← ee]; exact sgn0.mp (by rw [← hsg]; exact hc_29)
        refine aw_goto (tgt := 63) dX6_takesRow_32 (by decide) ?_
        first
        | rw [upF_ne _ _ (show a + k ≠ 417 by omega), upF_self, ea] at hM2
        | skip
        refine aw_iincZ dX6_takesRow_63 (by rfl) (by decide) ?_
        refine aw_goto (tgt := 14) dX6_takesRow_66 (by decide) ?_
        rw [show ((k : Int) + 1) = ((k + 1 : Nat) : Int) by omega]
        refine aw_pk [5, 0, 1, 2, 3, 4] (by rfl) ?_
        first
        | exact IH (k + 1) (by omega) hmo2 hM2 hS.step
        | exact IH (k + 1) (by omega) hmo hM (hS.same (by rw [hz0, Int.mul_zero]))
theorem m_takesRow (g : GX) (d : Nat) {V : AH} {mo sz a e n f : Nat} {zs : Nat → Int} (hm : moV mo V) (hM : MN g mo V zs) (hd : a + n ≤ e ∨ e + n ≤ a) (h1 : (a + n ≤ 417 ∨ 418 ≤ a) ∧ a + n ≤ 460) (h2 : (e + n ≤ 417 ∨ 418 ≤ e) ∧ e + n ≤ 460) (hf : f < 460 ∧ f ≠ 417 ∧ (f < a ∨ a + n ≤ f)) (hb1 : ∀ k, k < n → SmM (zs f * zs (e + k))) (hb2 : ∀ k, k < n → SmM (zs (a + k) - zs f * zs (e + k))) : AMet g mX6_takesRow (d + 2) [.ref mo, .int (iZ a), .int (iZ e), .int (iZ n), .int (iZ f)] V sz (VX V sz (EN mo) (fun q V' => none = q ∧ ∃ z', MN g mo V' z' ∧ TkZ zs z' a e n f)) := by
  obtain ⟨rk, kn, ar, ac, hmo⟩ := hm
  obtain ⟨D, LN, SG, O1, O2, hA, h0⟩ := id hM
  obtain ⟨_, _, _, hsg, _, _, _⟩ := h0 f (by omega)
  refine AMet.of rfl rfl (Nat.le_of_ble_eq_true rfl) ?_
  show AW g mX6_takesRow (d + 2) 0 [(0, .ref mo), (1, .int (iZ a)), (2, .int (iZ e)), (3, .int (iZ n)), (4, .int (iZ f))] [] V sz _
  refine aw_aload_n dX6_takesRow_0 (by rfl) (Or.inr ⟨_, rfl⟩) ?_
  refine aw_get fX6_17 dX6_takesRow_1 hmo (by rfl) ?_
  refine aw_iload dX6_takesRow_4 (by rfl) ?_
  refine aw_ialdZ (f) dX6_takesRow_6 hA.2.2.1 (by omega) (by omega) (by omega) ?_
  refine aw_if_neZ (tgt := 11) dX6_takesRow_7 (by decide) (by rw [hsg]; exact sgn_R _) (fun hc_7 => ?_) (fun hc_7 => ?_)
  · refine aw_iconstZ dX6_takesRow_11 ?_
    refine aw_istore dX6_takesRow_12 (by decide) ?_
    refine aw_pk [5, 0, 1, 2, 3, 4] (by rfl) ?_
    exact tk_loop g d hd h1 h2 hf hb1 hb2 n 0 (by omega) hmo hM (fun q hq => by rw [if_neg (by omega)])
  · have hz0 : zs f = 0 := sgn0.mp (by rw [← hsg]; exact hc_7)
    refine aw_ret dX6_takesRow_10 rfl ?_
    refine VX.ret ⟨rfl, zs, hM, fun q _ => ?_⟩
    split
    · rw [hz0, Int.zero_mul, Int.sub_zero]
    · rfl

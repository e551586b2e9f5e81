/-! ===== the reference: its numbers ===== -/
abbrev moO (mo : Nat) (rk kn ar ac : Int) : va_E := .inr (6, [.ref (mo + 1), .ref (mo + 2), .ref (mo + 3), .ref (mo + 4), .ref (mo + 5), .int (iZ rk), .ref (mo + 6), .int (iZ kn), .ref (mo + 7), .ref (mo + 8), .ref (mo + 9), .ref (mo + 10), .ref (mo + 11), .ref (mo + 12), .ref (mo + 13), .ref (mo + 14), .int (iZ ar), .int (iZ ac), .ref (mo + 15)])
def dg (D : Nat → Int) (c : Nat) : Nat → Int := fun k => D (100 * c + k)
/-- number c of the reference is z -/
def NuV (D LN SG : Nat → Int) (c : Nat) (z : Int) : Prop := ∃ n : Nat, LN c = (n : Int) ∧ n ≤ 100 ∧ SG c = z.sign ∧ (∀ k, k < n → 0 ≤ dg D c k ∧ dg D c k < 268435456) ∧ mg 268435456 (dg D c) n = (z.natAbs : Int) ∧ (n = 0 ∨ dg D c (n - 1) ≠ 0)
theorem NuV.kept {D LN SG D' LN' SG' : Nat → Int} {c : Nat} {z : Int} (h : NuV D LN SG c z) (h1 : ∀ k, k < 100 → D' (100 * c + k) = D (100 * c + k)) (h2 : LN' c = LN c) (h3 : SG' c = SG c) : NuV D' LN' SG' c z := by
  obtain ⟨n, a1, a2, a3, a4, a5, a6⟩ := h
  have e : ∀ k, k < n → dg D' c k = dg D c k := fun k hk => h1 k (by omega)
  refine ⟨n, h2.trans a1, a2, h3.trans a3, fun k hk => by rw [e k hk]; exact a4 k hk, by rw [mg_congr e]; exact a5, ?_⟩
  rcases Nat.eq_zero_or_pos n with h0 | h0
  · exact Or.inl h0
  · rw [e (n - 1) (by omega)]; exact a6
/-- the reference's five arrays of numbers -/
def MA (g : GX) (mo : Nat) (V : AH) (D LN SG O1 O2 : Nat → Int) : Prop := V (mo + 1) = some (aIz g 46000 D) ∧ V (mo + 2) = some (aIz g 460 LN) ∧ V (mo + 3) = some (aIz g 460 SG) ∧ V (mo + 4) = some (aJz g 220 O1) ∧ V (mo + 5) = some (aJz g 220 O2)
def MN (g : GX) (mo : Nat) (V : AH) (zs : Nat → Int) : Prop := ∃ D LN SG O1 O2 : Nat → Int, MA g mo V D LN SG O1 O2 ∧ ∀ c, c < 460 → NuV D LN SG c (zs c)
def EN (mo : Nat) : Nat → Prop := fun a => mo + 1 ≤ a ∧ a ≤ mo + 5
def moV (mo : Nat) (V : AH) : Prop := ∃ rk kn ar ac : Int, V mo = some (moO mo rk kn ar ac)
theorem MA.d {g : GX} {mo : Nat} {V : AH} {D LN SG O1 O2 D' : Nat → Int} (h : MA g mo V D LN SG O1 O2) : MA g mo (AHu V (mo + 1) (aIz g 46000 D')) D' LN SG O1 O2 := ⟨AHu_self _ _ _, (AHu_ne (by omega)).trans h.2.1, (AHu_ne (by omega)).trans h.2.2.1, (AHu_ne (by omega)).trans h.2.2.2.1, (AHu_ne (by omega)).trans h.2.2.2.2⟩
theorem MA.l {g : GX} {mo : Nat} {V : AH} {D LN SG O1 O2 D' : Nat → Int} (h : MA g mo V D LN SG O1 O2) : MA g mo (AHu V (mo + 2) (aIz g 460 D')) D D' SG O1 O2 := ⟨(AHu_ne (by omega)).trans h.1, AHu_self _ _ _, (AHu_ne (by omega)).trans h.2.2.1, (AHu_ne (by omega)).trans h.2.2.2.1, (AHu_ne (by omega)).trans h.2.2.2.2⟩
theorem MA.s {g : GX} {mo : Nat} {V : AH} {D LN SG O1 O2 D' : Nat → Int} (h : MA g mo V D LN SG O1 O2) : MA g mo (AHu V (mo + 3) (aIz g 460 D')) D LN D' O1 O2 := ⟨(AHu_ne (by omega)).trans h.1, (AHu_ne (by omega)).trans h.2.1, AHu_self _ _ _, (AHu_ne (by omega)).trans h.2.2.2.1, (AHu_ne (by omega)).trans h.2.2.2.2⟩
theorem MA.o1 {g : GX} {mo : Nat} {V : AH} {D LN SG O1 O2 D' : Nat → Int} (h : MA g mo V D LN SG O1 O2) : MA g mo (AHu V (mo + 4) (aJz g 220 D')) D LN SG D' O2 := ⟨(AHu_ne (by omega)).trans h.1, (AHu_ne (by omega)).trans h.2.1, (AHu_ne (by omega)).trans h.2.2.1, AHu_self _ _ _, (AHu_ne (by omega)).trans h.2.2.2.2⟩
theorem MA.o2 {g : GX} {mo : Nat} {V : AH} {D LN SG O1 O2 D' : Nat → Int} (h : MA g mo V D LN SG O1 O2) : MA g mo (AHu V (mo + 5) (aJz g 220 D')) D LN SG O1 D' := ⟨(AHu_ne (by omega)).trans h.1, (AHu_ne (by omega)).trans h.2.1, (AHu_ne (by omega)).trans h.2.2.1, (AHu_ne (by omega)).trans h.2.2.2.1, AHu_self _ _ _⟩
/-- number c written anew: the others stay -/
theorem nu_all {D LN SG D' LN' SG' : Nat → Int} {zs : Nat → Int} {c : Nat} {z : Int} (h : ∀ c, c < 460 → NuV D LN SG c (zs c)) (hz : NuV D' LN' SG' c z) (h1 : ∀ k, k < 100 * c ∨ 100 * c + 100 ≤ k → D' k = D k) (h2 : ∀ k, k ≠ c → LN' k = LN k) (h3 : ∀ k, k ≠ c → SG' k = SG k) : ∀ q, q < 460 → NuV D' LN' SG' q (upF zs c z q) := fun q hq => by
  by_cases e : q = c
  · subst e; rw [upF_self]; exact hz
  · rw [upF_ne _ _ e]
    exact (h q hq).kept (fun k hk => h1 _ (by omega)) (h2 q e) (h3 q e)
theorem sg_of (v : Int) : v.sign = if 0 < v then 1 else if v < 0 then -1 else 0 := by
  rcases Int.lt_trichotomy v 0 with h | h | h
  · rw [Int.sign_eq_neg_one_of_neg h, if_neg (by omega), if_pos h]
  · rw [h]; rfl
  · rw [Int.sign_eq_one_of_pos h, if_pos h]
abbrev mX6_becomes : MI := (yX6_becomes, cX6_becomes, 7, none, noX)
theorem dX6_becomes_0 : decode cX6_becomes 0 = .ok (.lload_n 2, 1) := by decide +kernel
theorem dX6_becomes_1 : decode cX6_becomes 1 = .ok (.lconst 0, 1) := by decide +kernel
theorem dX6_becomes_2 : decode cX6_becomes 2 = .ok (.lcmp, 1) := by decide +kernel
theorem dX6_becomes_3 : decode cX6_becomes 3 = .ok (.ifCond .ge 8, 3) := by decide +kernel
theorem dX6_becomes_6 : decode cX6_becomes 6 = .ok (.lload_n 2, 1) := by decide +kernel
theorem dX6_becomes_7 : decode cX6_becomes 7 = .ok (.lneg, 1) := by decide +kernel
theorem dX6_becomes_8 : decode cX6_becomes 8 = .ok (.goto 4, 3) := by decide +kernel
theorem dX6_becomes_11 : decode cX6_becomes 11 = .ok (.lload_n 2, 1) := by decide +kernel
theorem dX6_becomes_12 : decode cX6_becomes 12 = .ok (.lstore 4, 2) := by decide +kernel
theorem dX6_becomes_14 : decode cX6_becomes 14 = .ok (.iconst 0, 1) := by decide +kernel
theorem dX6_becomes_15 : decode cX6_becomes 15 = .ok (.istore 6, 2) := by decide +kernel
theorem dX6_becomes_17 : decode cX6_becomes 17 = .ok (.lload 4, 2) := by decide +kernel
theorem dX6_becomes_19 : decode cX6_becomes 19 = .ok (.lconst 0, 1) := by decide +kernel
theorem dX6_becomes_20 : decode cX6_becomes 20 = .ok (.lcmp, 1) := by decide +kernel
theorem dX6_becomes_21 : decode cX6_becomes 21 = .ok (.ifCond .le 36, 3) := by decide +kernel
theorem dX6_becomes_24 : decode cX6_becomes 24 = .ok (.aload_n 0, 1) := by decide +kernel
theorem dX6_becomes_25 : decode cX6_becomes 25 = .ok (.getfield 8, 3) := by decide +kernel
theorem dX6_becomes_28 : decode cX6_becomes 28 = .ok (.bipush 100, 2) := by decide +kernel
theorem dX6_becomes_30 : decode cX6_becomes 30 = .ok (.iload_n 1, 1) := by decide +kernel
theorem dX6_becomes_31 : decode cX6_becomes 31 = .ok (.imul, 1) := by decide +kernel
theorem dX6_becomes_32 : decode cX6_becomes 32 = .ok (.iload 6, 2) := by decide +kernel
theorem dX6_becomes_34 : decode cX6_becomes 34 = .ok (.iadd, 1) := by decide +kernel
theorem dX6_becomes_35 : decode cX6_becomes 35 = .ok (.lload 4, 2) := by decide +kernel
theorem dX6_becomes_37 : decode cX6_becomes 37 = .ok (.ldc2_w 65, 3) := by decide +kernel
theorem dX6_becomes_40 : decode cX6_becomes 40 = .ok (.lrem, 1) := by decide +kernel
theorem dX6_becomes_41 : decode cX6_becomes 41 = .ok (.l2i, 1) := by decide +kernel
theorem dX6_becomes_42 : decode cX6_becomes 42 = .ok (.iastore, 1) := by decide +kernel
theorem dX6_becomes_43 : decode cX6_becomes 43 = .ok (.lload 4, 2) := by decide +kernel
theorem dX6_becomes_45 : decode cX6_becomes 45 = .ok (.ldc2_w 65, 3) := by decide +kernel
theorem dX6_becomes_48 : decode cX6_becomes 48 = .ok (.ldiv, 1) := by decide +kernel
theorem dX6_becomes_49 : decode cX6_becomes 49 = .ok (.lstore 4, 2) := by decide +kernel
theorem dX6_becomes_51 : decode cX6_becomes 51 = .ok (.iinc 6 1, 3) := by decide +kernel
theorem dX6_becomes_54 : decode cX6_becomes 54 = .ok (.goto (-37), 3) := by decide +kernel
theorem dX6_becomes_57 : decode cX6_becomes 57 = .ok (.aload_n 0, 1) := by decide +kernel
theorem dX6_becomes_58 : decode cX6_becomes 58 = .ok (.getfield 14, 3) := by decide +kernel
theorem dX6_becomes_61 : decode cX6_becomes 61 = .ok (.iload_n 1, 1) := by decide +kernel
theorem dX6_becomes_62 : decode cX6_becomes 62 = .ok (.iload 6, 2) := by decide +kernel
theorem dX6_becomes_64 : decode cX6_becomes 64 = .ok (.iastore, 1) := by decide +kernel
theorem dX6_becomes_65 : decode cX6_becomes 65 = .ok (.aload_n 0, 1) := by decide +kernel
theorem dX6_becomes_66 : decode cX6_becomes 66 = .ok (.getfield 17, 3) := by decide +kernel
theorem dX6_becomes_69 : decode cX6_becomes 69 = .ok (.iload_n 1, 1) := by decide +kernel
theorem dX6_becomes_70 : decode cX6_becomes 70 = .ok (.lload_n 2, 1) := by decide +kernel
theorem dX6_becomes_71 : decode cX6_becomes 71 = .ok (.lconst 0, 1) := by decide +kernel
theorem dX6_becomes_72 : decode cX6_becomes 72 = .ok (.lcmp, 1) := by decide +kernel
theorem dX6_becomes_73 : decode cX6_becomes 73 = .ok (.ifCond .le 7, 3) := by decide +kernel
theorem dX6_becomes_76 : decode cX6_becomes 76 = .ok (.iconst 1, 1) := by decide +kernel
theorem dX6_becomes_77 : decode cX6_becomes 77 = .ok (.goto 14, 3) := by decide +kernel
theorem dX6_becomes_80 : decode cX6_becomes 80 = .ok (.lload_n 2, 1) := by decide +kernel
theorem dX6_becomes_81 : decode cX6_becomes 81 = .ok (.lconst 0, 1) := by decide +kernel
theorem dX6_becomes_82 : decode cX6_becomes 82 = .ok (.lcmp, 1) := by decide +kernel
theorem dX6_becomes_83 : decode cX6_becomes 83 = .ok (.ifCond .ge 7, 3) := by decide +kernel
theorem dX6_becomes_86 : decode cX6_becomes 86 = .ok (.iconst (-1), 1) := by decide +kernel
theorem dX6_becomes_87 : decode cX6_becomes 87 = .ok (.goto 4, 3) := by decide +kernel
theorem dX6_becomes_90 : decode cX6_becomes 90 = .ok (.iconst 0, 1) := by decide +kernel
theorem dX6_becomes_91 : decode cX6_becomes 91 = .ok (.iastore, 1) := by decide +kernel
theorem dX6_becomes_92 : decode cX6_becomes 92 = .ok (.return_, 1) := by decide +kernel
theorem bc_n {F : Nat → Int} {n : Nat} {r v : Int} (hr : 0 < r) (hF : ∀ k, k < n → 0 ≤ F k ∧ F k < 268435456) (hE : mg 268435456 F n + r * 268435456 ^ n = (v.natAbs : Int)) (hv : -9223372036854775808 < v ∧ v < 9223372036854775808) : n < 3 := by
  have h1 := (mg_bd (show (0 : Int) < 268435456 by omega) hF).1
  rcases Nat.lt_or_ge n 3 with h | h
  · exact h
  · have h2 : (268435456 : Int) ^ 3 ≤ 268435456 ^ n := pw_le (by omega) h
    have h3 : 1 * (268435456 : Int) ^ n ≤ r * 268435456 ^ n := Int.mul_le_mul_of_nonneg_right (by omega) (Int.pow_nonneg (by omega))
    have h4 : (268435456 : Int) ^ 3 = 19342813113834066795298816 := by decide
    omega
theorem bc_E {D : Nat → Int} {c n : Nat} {r x : Int} (hE : mg 268435456 (dg D c) n + r * 268435456 ^ n = x) : mg 268435456 (dg (upF D (100 * c + n) (r % 268435456)) c) (n + 1) + r / 268435456 * 268435456 ^ (n + 1) = x := by
  simp only [mg]
  have e1 : mg 268435456 (dg (upF D (100 * c + n) (r % 268435456)) c) n = mg 268435456 (dg D c) n := mg_congr (fun k hk => upF_ne _ _ (by omega))
  have e2 : dg (upF D (100 * c + n) (r % 268435456)) c n = r % 268435456 := upF_self _ _ _
  rw [e1, e2, Int.pow_succ]
  have hm := Int.emod_add_mul_ediv r 268435456
  generalize (268435456 : Int) ^ n = P at *
  have e3 : r / 268435456 * (P * 268435456) = (268435456 * (r / 268435456)) * P := by
    rw [Int.mul_comm P, ← Int.mul_assoc, Int.mul_comm (r / 268435456)]
  have e4 : (r % 268435456 + 268435456 * (r / 268435456)) * P = r * P := by rw [hm]
  rw [Int.add_mul] at e4
  rw [e3]
  omega
theorem bc_loop (g : GX) (d : Nat) {mo sz c : Nat} {v rk kn ar ac : Int} {zs D0 LN SG O1 O2 : Nat → Int} (hc : c < 460) (hv : -9223372036854775808 < v ∧ v < 9223372036854775808) (h0 : ∀ c, c < 460 → NuV D0 LN SG c (zs c)) : ∀ (x n : Nat), n + x = 3 → ∀ {V : AH} {D : Nat → Int} {r : Int}, (0 ≤ r ∧ r < 9223372036854775808) → V mo = some (moO mo rk kn ar ac) → MA g mo V D LN SG O1 O2 → (∀ k, k < 100 * c ∨ 100 * c + 100 ≤ k → D k = D0 k) → (∀ k, k < n → 0 ≤ dg D c k ∧ dg D c k < 268435456) → mg 268435456 (dg D c) n + r * 268435456 ^ n = (v.natAbs : Int) → (n = 0 ∨ 0 < r ∨ dg D c (n - 1) ≠ 0) → AW g mX6_becomes d 17 [(6, .int (iZ n)), (4, .long (jZ r)), (0, .ref mo), (1, .int (iZ c)), (2, .long (jZ v))] [] V sz (VX V sz (EN mo) (fun q V' => none = q ∧ MN g mo V' (upF zs c v)))
  | 0, n, hx, V, D, r, hr, hmo, hA, hD, hF, hE, hT => by
    have END : r = 0 → AW g mX6_becomes d 57 [(6, .int (iZ n)), (0, .ref mo), (1, .int (iZ c)), (2, .long (jZ v))] [] V sz (VX V sz (EN mo) (fun q V' => none = q ∧ MN g mo V' (upF zs c v))) := fun hr0 => by
      refine aw_aload_n dX6_becomes_57 (by rfl) (Or.inr ⟨_, rfl⟩) ?_
      refine aw_get fX6_14 dX6_becomes_58 hmo (by rfl) ?_
      refine aw_iload_n dX6_becomes_61 (by rfl) ?_
      refine aw_iload dX6_becomes_62 (by rfl) ?_
      refine aw_iastZ (c) dX6_becomes_64 hA.2.1 (by omega) (by omega) (by omega) ?_
      refine VX.stp (V1 := AHu V (mo + 2) _) (fun a ha => AHu_ne (fun q => ha (by unfold EN; omega))) ?_
      have hmo1 : (AHu V (mo + 2) (aIz g 460 (upF LN c (n : Int)))) mo = _ := (AHu_ne (by omega)).trans hmo
      have hA1 : MA g mo (AHu V (mo + 2) (aIz g 460 (upF LN c (n : Int)))) D (upF LN c (n : Int)) SG O1 O2 := hA.l
      refine aw_aload_n dX6_becomes_65 (by rfl) (Or.inr ⟨_, rfl⟩) ?_
      refine aw_get fX6_17 dX6_becomes_66 hmo1 (by rfl) ?_
      refine aw_iload_n dX6_becomes_69 (by rfl) ?_
      refine aw_lload_n dX6_becomes_70 (by rfl) ?_
      refine aw_lconstZ (z := 0) dX6_becomes_71 (by decide) ?_
      refine aw_lcmpZ dX6_becomes_72 (by omega) (by omega) ?_
      refine aw_if_leZ (tgt := 80) dX6_becomes_73 (by decide) (cmpZ_R _ _) (fun hc_73 => ?_) (fun hc_73 => ?_)
      · have hv0 := cmpZ_le.mp hc_73
        refine aw_lload_n dX6_becomes_80 (by rfl) ?_
        refine aw_lconstZ (z := 0) dX6_becomes_81 (by decide) ?_
        refine aw_lcmpZ dX6_becomes_82 (by omega) (by omega) ?_
        refine aw_if_geZ (tgt := 90) dX6_becomes_83 (by decide) (cmpZ_R _ _) (fun hc_83 => ?_) (fun hc_83 => ?_)
        · have hv1 := cmpZ_ge.mp hc_83
          refine aw_iconstZ dX6_becomes_90 ?_
          refine aw_topi (y := v.sign) (by rw [sg_of]; split <;> (try split) <;> omega) ?_
          refine aw_iastZ (c) dX6_becomes_91 hA1.2.2.1 (by omega) (by omega) (by omega) ?_
          refine VX.stp (V1 := AHu (AHu V (mo + 2) (aIz g 460 (upF LN c (n : Int)))) (mo + 3) _) (fun a ha => AHu_ne (fun q => ha (by unfold EN; omega))) ?_
          refine aw_ret dX6_becomes_92 rfl ?_
          refine VX.ret ⟨rfl, D, upF LN c (n : Int), upF SG c v.sign, O1, O2, hA1.s, nu_all h0 ⟨n, upF_self _ _ _, by omega, upF_self _ _ _, hF, ?_, ?_⟩ hD (fun k hk => upF_ne _ _ hk) (fun k hk => upF_ne _ _ hk)⟩
          · rw [hr0, Int.zero_mul, Int.add_zero] at hE
            exact hE
          · rcases hT with z | z | z
            · exact Or.inl z
            · omega
            · exact Or.inr z
        · have hv1 : ¬ 0 ≤ v := fun z => hc_83 (cmpZ_ge.mpr z)
          refine aw_iconstZ dX6_becomes_86 ?_
          refine aw_goto (tgt := 91) dX6_becomes_87 (by decide) ?_
          refine aw_topi (y := v.sign) (by rw [sg_of]; split <;> (try split) <;> omega) ?_
          refine aw_iastZ (c) dX6_becomes_91 hA1.2.2.1 (by omega) (by omega) (by omega) ?_
          refine VX.stp (V1 := AHu (AHu V (mo + 2) (aIz g 460 (upF LN c (n : Int)))) (mo + 3) _) (fun a ha => AHu_ne (fun q => ha (by unfold EN; omega))) ?_
          refine aw_ret dX6_becomes_92 rfl ?_
          refine VX.ret ⟨rfl, D, upF LN c (n : Int), upF SG c v.sign, O1, O2, hA1.s, nu_all h0 ⟨n, upF_self _ _ _, by omega, upF_self _ _ _, hF, ?_, ?_⟩ hD (fun k hk => upF_ne _ _ hk) (fun k hk => upF_ne _ _ hk)⟩
          · rw [hr0, Int.zero_mul, Int.add_zero] at hE
            exact hE
          · rcases hT with z | z | z
            · exact Or.inl z
            · omega
            · exact Or.inr z
      · have hv0 : ¬ v ≤ 0 := fun z => hc_73 (cmpZ_le.mpr z)
        refine aw_iconstZ dX6_becomes_76 ?_
        refine aw_goto (tgt := 91) dX6_becomes_77 (by decide) ?_
        refine aw_topi (y := v.sign) (by rw [sg_of]; split <;> (try split) <;> omega) ?_
        refine aw_iastZ (c) dX6_becomes_91 hA1.2.2.1 (by omega) (by omega) (by omega) ?_
        refine VX.stp (V1 := AHu (AHu V (mo + 2) (aIz g 460 (upF LN c (n : Int)))) (mo + 3) _) (fun a ha => AHu_ne (fun q => ha (by unfold EN; omega))) ?_
        refine aw_ret dX6_becomes_92 rfl ?_
        refine VX.ret ⟨rfl, D, upF LN c (n : Int), upF SG c v.sign, O1, O2, hA1.s, nu_all h0 ⟨n, upF_self _ _ _, by omega, upF_self _ _ _, hF, ?_, ?_⟩ hD (fun k hk => upF_ne _ _ hk) (fun k hk => upF_ne _ _ hk)⟩
        · rw [hr0, Int.zero_mul, Int.add_zero] at hE
          exact hE
        · rcases hT with z | z | z
          · exact Or.inl z
          · omega
          · exact Or.inr z
    refine aw_lload dX6_becomes_17 (by rfl) ?_
    refine aw_lconstZ (z := 0) dX6_becomes_19 (by decide) ?_
    refine aw_lcmpZ dX6_becomes_20 (by omega) (by omega) ?_
    refine aw_if_leZ (tgt := 57) dX6_becomes_21 (by decide) (cmpZ_R _ _) (fun hc_21 => ?_) (fun hc_21 => ?_)
    · have hr0 : r = 0 := by
        have := cmpZ_le.mp hc_21
        omega
      exact aw_pk [6, 0, 1, 2] (by rfl) (END hr0)
    · have hr1 : 0 < r := by
        have : ¬ r ≤ 0 := fun z => hc_21 (cmpZ_le.mpr z)
        omega
      have hn3 := bc_n (F := dg D c) hr1 hF hE hv
      refine aw_aload_n dX6_becomes_24 (by rfl) (Or.inr ⟨_, rfl⟩) ?_
      refine aw_get fX6_8 dX6_becomes_25 hmo (by rfl) ?_
      refine aw_bipushZ dX6_becomes_28 (by decide) ?_
      refine aw_iload_n dX6_becomes_30 (by rfl) ?_
      refine aw_imulZ dX6_becomes_31 ?_
      refine aw_iload dX6_becomes_32 (by rfl) ?_
      refine aw_iaddZ dX6_becomes_34 ?_
      refine aw_lload dX6_becomes_35 (by rfl) ?_
      refine aw_ldc2Z (z := 268435456) qX6_65 dX6_becomes_37 (by decide) ?_
      refine aw_lremZ dX6_becomes_40 (by omega) (by omega) (by omega) (by omega) ?_
      rw [Int.tmod_eq_emod_of_nonneg (by omega)]
      refine aw_l2iZ dX6_becomes_41 ?_
      refine aw_iastZ (100 * c + n) dX6_becomes_42 hA.1 (by omega) (by omega) (by omega) ?_
      refine VX.stp (V1 := AHu V (mo + 1) _) (fun a ha => AHu_ne (fun q => ha (by unfold EN; omega))) ?_
      refine aw_lload dX6_becomes_43 (by rfl) ?_
      refine aw_ldc2Z (z := 268435456) qX6_65 dX6_becomes_45 (by decide) ?_
      refine aw_ldivZ dX6_becomes_48 (by omega) (by omega) (by omega) (by omega) ?_
      rw [Int.tdiv_eq_ediv_of_nonneg (by omega)]
      refine aw_lstore dX6_becomes_49 (by decide) ?_
      refine aw_iincZ dX6_becomes_51 (by rfl) (by decide) ?_
      refine aw_goto (tgt := 17) dX6_becomes_54 (by decide) ?_
      exact absurd hn3 (by omega)
  | x + 1, n, hx, V, D, r, hr, hmo, hA, hD, hF, hE, hT => by
    have END : r = 0 → AW g mX6_becomes d 57 [(6, .int (iZ n)), (0, .ref mo), (1, .int (iZ c)), (2, .long (jZ v))] [] V sz (VX V sz (EN mo) (fun q V' => none = q ∧ MN g mo V' (upF zs c v))) := fun hr0 => by
      refine aw_aload_n dX6_becomes_57 (by rfl) (Or.inr ⟨_, rfl⟩) ?_
      refine aw_get fX6_14 dX6_becomes_58 hmo (by rfl) ?_
      refine aw_iload_n dX6_becomes_61 (by rfl) ?_
      refine aw_iload dX6_becomes_62 (by rfl) ?_
      refine aw_iastZ (c) dX6_becomes_64 hA.2.1 (by omega) (by omega) (by omega) ?_
      refine VX.stp (V1 := AHu V (mo + 2) _) (fun a ha => AHu_ne (fun q => ha (by unfold EN; omega))) ?_
      have hmo1 : (AHu V (mo + 2) (aIz g 460 (upF LN c (n : Int)))) mo = _ := (AHu_ne (by omega)).trans hmo
      have hA1 : MA g mo (AHu V (mo + 2) (aIz g 460 (upF LN c (n : Int)))) D (upF LN c (n : Int)) SG O1 O2 := hA.l
      refine aw_aload_n dX6_becomes_65 (by rfl) (Or.inr ⟨_, rfl⟩) ?_
      refine aw_get fX6_17 dX6_becomes_66 hmo1 (by rfl) ?_
      refine aw_iload_n dX6_becomes_69 (by rfl) ?_
      refine aw_lload_n dX6_becomes_70 (by rfl) ?_
      refine aw_lconstZ (z := 0) dX6_becomes_71 (by decide) ?_
      refine aw_lcmpZ dX6_becomes_72 (by omega) (by omega) ?_
      refine aw_if_leZ (tgt := 80) dX6_becomes_73 (by decide) (cmpZ_R _ _) (fun hc_73 => ?_) (fun hc_73 => ?_)
      · have hv0 := cmpZ_le.mp hc_73
        refine aw_lload_n dX6_becomes_80 (by rfl) ?_
        refine aw_lconstZ (z := 0) dX6_becomes_81 (by decide) ?_
        refine aw_lcmpZ dX6_becomes_82 (by omega) (by omega) ?_
        refine aw_if_geZ (tgt := 90) dX6_becomes_83 (by decide) (cmpZ_R _ _) (fun hc_83 => ?_) (fun hc_83 => ?_)
        · have hv1 := cmpZ_ge.mp hc_83
          refine aw_iconstZ dX6_becomes_90 ?_
          refine aw_topi (y := v.sign) (by rw [sg_of]; split <;> (try split) <;> omega) ?_
          refine aw_iastZ (c) dX6_becomes_91 hA1.2.2.1 (by omega) (by omega) (by omega) ?_
          refine VX.stp (V1 := AHu (AHu V (mo + 2) (aIz g 460 (upF LN c (n : Int)))) (mo + 3) _) (fun a ha => AHu_ne (fun q => ha (by unfold EN; omega))) ?_
          refine aw_ret dX6_becomes_92 rfl ?_
          refine VX.ret ⟨rfl, D, upF LN c (n : Int), upF SG c v.sign, O1, O2, hA1.s, nu_all h0 ⟨n, upF_self _ _ _, by omega, upF_self _ _ _, hF, ?_, ?_⟩ hD (fun k hk => upF_ne _ _ hk) (fun k hk => upF_ne _ _ hk)⟩
          · rw [hr0, Int.zero_mul, Int.add_zero] at hE
            exact hE
          · rcases hT with z | z | z
            · exact Or.inl z
            · omega
            · exact Or.inr z
        · have hv1 : ¬ 0 ≤ v := fun z => hc_83 (cmpZ_ge.mpr z)
          refine aw_iconstZ dX6_becomes_86 ?_
          refine aw_goto (tgt := 91) dX6_becomes_87 (by decide) ?_
          refine aw_topi (y := v.sign) (by rw [sg_of]; split <;> (try split) <;> omega) ?_
          refine aw_iastZ (c) dX6_becomes_91 hA1.2.2.1 (by omega) (by omega) (by omega) ?_
          refine VX.stp (V1 := AHu (AHu V (mo + 2) (aIz g 460 (upF LN c (n : Int)))) (mo + 3) _) (fun a ha => AHu_ne (fun q => ha (by unfold EN; omega))) ?_
          refine aw_ret dX6_becomes_92 rfl ?_
          refine VX.ret ⟨rfl, D, upF LN c (n : Int), upF SG c v.sign, O1, O2, hA1.s, nu_all h0 ⟨n, upF_self _ _ _, by omega, upF_self _ _ _, hF, ?_, ?_⟩ hD (fun k hk => upF_ne _ _ hk) (fun k hk => upF_ne _ _ hk)⟩
          · rw [hr0, Int.zero_mul, Int.add_zero] at hE
            exact hE
          · rcases hT with z | z | z
            · exact Or.inl z
            · omega
            · exact Or.inr z
      · have hv0 : ¬ v ≤ 0 := fun z => hc_73 (cmpZ_le.mpr z)
        refine aw_iconstZ dX6_becomes_76 ?_
        refine aw_goto (tgt := 91) dX6_becomes_77 (by decide) ?_
        refine aw_topi (y := v.sign) (by rw [sg_of]; split <;> (try split) <;> omega) ?_
        refine aw_iastZ (c) dX6_becomes_91 hA1.2.2.1 (by omega) (by omega) (by omega) ?_
        refine VX.stp (V1 := AHu (AHu V (mo + 2) (aIz g 460 (upF LN c (n : Int)))) (mo + 3) _) (fun a ha => AHu_ne (fun q => ha (by unfold EN; omega))) ?_
        refine aw_ret dX6_becomes_92 rfl ?_
        refine VX.ret ⟨rfl, D, upF LN c (n : Int), upF SG c v.sign, O1, O2, hA1.s, nu_all h0 ⟨n, upF_self _ _ _, by omega, upF_self _ _ _, hF, ?_, ?_⟩ hD (fun k hk => upF_ne _ _ hk) (fun k hk => upF_ne _ _ hk)⟩
        · rw [hr0, Int.zero_mul, Int.add_zero] at hE
          exact hE
        · rcases hT with z | z | z
          · exact Or.inl z
          · omega
          · exact Or.inr z
    have IH := fun n hn => @bc_loop g d mo sz c v rk kn ar ac zs D0 LN SG O1 O2 hc hv h0 x n hn
    refine aw_lload dX6_becomes_17 (by rfl) ?_
    refine aw_lconstZ (z := 0) dX6_becomes_19 (by decide) ?_
    refine aw_lcmpZ dX6_becomes_20 (by omega) (by omega) ?_
    refine aw_if_leZ (tgt := 57) dX6_becomes_21 (by decide) (cmpZ_R _ _) (fun hc_21 => ?_) (fun hc_21 => ?_)
    · have hr0 : r = 0 := by
        have := cmpZ_le.mp hc_21
        omega
      exact aw_pk [6, 0, 1, 2] (by rfl) (END hr0)
    · have hr1 : 0 < r := by
        have : ¬ r ≤ 0 := fun z => hc_21 (cmpZ_le.mpr z)
        omega
      have hn3 := bc_n (F := dg D c) hr1 hF hE hv
      refine aw_aload_n dX6_becomes_24 (by rfl) (Or.inr ⟨_, rfl⟩) ?_
      refine aw_get fX6_8 dX6_becomes_25 hmo (by rfl) ?_
      refine aw_bipushZ dX6_becomes_28 (by decide) ?_
      refine aw_iload_n dX6_becomes_30 (by rfl) ?_
      refine aw_imulZ dX6_becomes_31 ?_
      refine aw_iload dX6_becomes_32 (by rfl) ?_
      refine aw_iaddZ dX6_becomes_34 ?_
      refine aw_lload dX6_becomes_35 (by rfl) ?_
      refine aw_ldc2Z (z := 268435456) qX6_65 dX6_becomes_37 (by decide) ?_
      refine aw_lremZ dX6_becomes_40 (by omega) (by omega) (by omega) (by omega) ?_
      rw [Int.tmod_eq_emod_of_nonneg (by omega)]
      refine aw_l2iZ dX6_becomes_41 ?_
      refine aw_iastZ (100 * c + n) dX6_becomes_42 hA.1 (by omega) (by omega) (by omega) ?_
      refine VX.stp (V1 := AHu V (mo + 1) _) (fun a ha => AHu_ne (fun q => ha (by unfold EN; omega))) ?_
      refine aw_lload dX6_becomes_43 (by rfl) ?_
      refine aw_ldc2Z (z := 268435456) qX6_65 dX6_becomes_45 (by decide) ?_
      refine aw_ldivZ dX6_becomes_48 (by omega) (by omega) (by omega) (by omega) ?_
      rw [Int.tdiv_eq_ediv_of_nonneg (by omega)]
      refine aw_lstore dX6_becomes_49 (by decide) ?_
      refine aw_iincZ dX6_becomes_51 (by rfl) (by decide) ?_
      refine aw_goto (tgt := 17) dX6_becomes_54 (by decide) ?_
      rw [show ((n : Int) + 1) = ((n + 1 : Nat) : Int) by omega]
      refine aw_pk [6, 4, 0, 1, 2] (by rfl) ?_
      exact IH (n + 1) (by omega) (r := r / 268435456) (by omega) ((AHu_ne (by omega)).trans hmo) hA.d (fun k hk => by rw [upF_ne _ _ (by omega)]; exact hD k hk) (fun k hk => by show 0 ≤ upF D (100 * c + n) (r % 268435456) (100 * c + k) ∧ upF D (100 * c + n) (r % 268435456) (100 * c + k) < _; unfold upF; split; omega; exact hF k (by omega)) (bc_E hE) (by by_cases z : r < 268435456; exact Or.inr (Or.inr (by show upF D (100 * c + n) (r % 268435456) (100 * c + (n + 1 - 1)) ≠ 0; rw [show n + 1 - 1 = n by omega, upF_self]; omega)); exact Or.inr (Or.inl (by omega)))
theorem m_becomes (g : GX) (d : Nat) {V : AH} {mo sz c : Nat} {v : Int} {zs : Nat → Int} (hm : moV mo V) (h : MN g mo V zs) (hc : c < 460) (hv : -9223372036854775808 < v ∧ v < 9223372036854775808) : AMet g mX6_becomes d [.ref mo, .int (iZ c), .long (jZ v)] V sz (VX V sz (EN mo) (fun q V' => none = q ∧ MN g mo V' (upF zs c v))) := by
  obtain ⟨rk, kn, ar, ac, hmo⟩ := hm
  obtain ⟨D, LN, SG, O1, O2, hA, h0⟩ := h
  refine AMet.of rfl rfl (Nat.le_of_ble_eq_true rfl) ?_
  show AW g mX6_becomes d 0 [(0, .ref mo), (1, .int (iZ c)), (2, .long (jZ v))] [] V sz _
  refine aw_lload_n dX6_becomes_0 (by rfl) ?_
  refine aw_lconstZ (z := 0) dX6_becomes_1 (by decide) ?_
  refine aw_lcmpZ dX6_becomes_2 (by omega) (by omega) ?_
  refine aw_if_geZ (tgt := 11) dX6_becomes_3 (by decide) (cmpZ_R _ _) (fun hc_3 => ?_) (fun hc_3 => ?_)
  · have hv0 := cmpZ_ge.mp hc_3
    refine aw_lload_n dX6_becomes_11 (by rfl) ?_
    refine aw_topl (y := (v.natAbs : Int)) (by omega) ?_
    refine aw_lstore dX6_becomes_12 (by decide) ?_
    refine aw_iconstZ dX6_becomes_14 ?_
    refine aw_istore dX6_becomes_15 (by decide) ?_
    refine aw_pk [6, 4, 0, 1, 2] (by rfl) ?_
    exact bc_loop g d hc hv h0 3 0 (by omega) (by omega) hmo hA (fun _ _ => rfl) (fun k hk => absurd hk (by omega)) (by simp [mg]) (Or.inl rfl)
  · have hv0 : ¬ 0 ≤ v := fun z => hc_3 (cmpZ_ge.mpr z)
    refine aw_lload_n dX6_becomes_6 (by rfl) ?_
    refine aw_lnegZ dX6_becomes_7 ?_
    refine aw_goto (tgt := 12) dX6_becomes_8 (by decide) ?_
    refine aw_topl (y := (v.natAbs : Int)) (by omega) ?_
    refine aw_lstore dX6_becomes_12 (by decide) ?_
    refine aw_iconstZ dX6_becomes_14 ?_
    refine aw_istore dX6_becomes_15 (by decide) ?_
    refine aw_pk [6, 4, 0, 1, 2] (by rfl) ?_
    exact bc_loop g d hc hv h0 3 0 (by omega) (by omega) hmo hA (fun _ _ => rfl) (fun k hk => absurd hk (by omega)) (by simp [mg]) (Or.inl rfl)
abbrev mX6_copies : MI := (yX6_copies, cX6_copies, 4, none, noX)
theorem dX6_copies_0 : decode cX6_copies 0 = .ok (.iconst 0, 1) := by decide +kernel
theorem dX6_copies_1 : decode cX6_copies 1 = .ok (.istore_n 3, 1) := by decide +kernel
theorem dX6_copies_2 : decode cX6_copies 2 = .ok (.iload_n 3, 1) := by decide +kernel
theorem dX6_copies_3 : decode cX6_copies 3 = .ok (.aload_n 0, 1) := by decide +kernel
theorem dX6_copies_4 : decode cX6_copies 4 = .ok (.getfield 14, 3) := by decide +kernel
theorem dX6_copies_7 : decode cX6_copies 7 = .ok (.iload_n 1, 1) := by decide +kernel
theorem dX6_copies_8 : decode cX6_copies 8 = .ok (.iaload, 1) := by decide +kernel
theorem dX6_copies_9 : decode cX6_copies 9 = .ok (.if_icmp .ge 31, 3) := by decide +kernel
theorem dX6_copies_12 : decode cX6_copies 12 = .ok (.aload_n 0, 1) := by decide +kernel
theorem dX6_copies_13 : decode cX6_copies 13 = .ok (.getfield 8, 3) := by decide +kernel
theorem dX6_copies_16 : decode cX6_copies 16 = .ok (.bipush 100, 2) := by decide +kernel
theorem dX6_copies_18 : decode cX6_copies 18 = .ok (.iload_n 2, 1) := by decide +kernel
theorem dX6_copies_19 : decode cX6_copies 19 = .ok (.imul, 1) := by decide +kernel
theorem dX6_copies_20 : decode cX6_copies 20 = .ok (.iload_n 3, 1) := by decide +kernel
theorem dX6_copies_21 : decode cX6_copies 21 = .ok (.iadd, 1) := by decide +kernel
theorem dX6_copies_22 : decode cX6_copies 22 = .ok (.aload_n 0, 1) := by decide +kernel
theorem dX6_copies_23 : decode cX6_copies 23 = .ok (.getfield 8, 3) := by decide +kernel
theorem dX6_copies_26 : decode cX6_copies 26 = .ok (.bipush 100, 2) := by decide +kernel
theorem dX6_copies_28 : decode cX6_copies 28 = .ok (.iload_n 1, 1) := by decide +kernel
theorem dX6_copies_29 : decode cX6_copies 29 = .ok (.imul, 1) := by decide +kernel
theorem dX6_copies_30 : decode cX6_copies 30 = .ok (.iload_n 3, 1) := by decide +kernel
theorem dX6_copies_31 : decode cX6_copies 31 = .ok (.iadd, 1) := by decide +kernel
theorem dX6_copies_32 : decode cX6_copies 32 = .ok (.iaload, 1) := by decide +kernel
theorem dX6_copies_33 : decode cX6_copies 33 = .ok (.iastore, 1) := by decide +kernel
theorem dX6_copies_34 : decode cX6_copies 34 = .ok (.iinc 3 1, 3) := by decide +kernel
theorem dX6_copies_37 : decode cX6_copies 37 = .ok (.goto (-35), 3) := by decide +kernel
theorem dX6_copies_40 : decode cX6_copies 40 = .ok (.aload_n 0, 1) := by decide +kernel
theorem dX6_copies_41 : decode cX6_copies 41 = .ok (.getfield 14, 3) := by decide +kernel
theorem dX6_copies_44 : decode cX6_copies 44 = .ok (.iload_n 2, 1) := by decide +kernel
theorem dX6_copies_45 : decode cX6_copies 45 = .ok (.aload_n 0, 1) := by decide +kernel
theorem dX6_copies_46 : decode cX6_copies 46 = .ok (.getfield 14, 3) := by decide +kernel
theorem dX6_copies_49 : decode cX6_copies 49 = .ok (.iload_n 1, 1) := by decide +kernel
theorem dX6_copies_50 : decode cX6_copies 50 = .ok (.iaload, 1) := by decide +kernel
theorem dX6_copies_51 : decode cX6_copies 51 = .ok (.iastore, 1) := by decide +kernel
theorem dX6_copies_52 : decode cX6_copies 52 = .ok (.aload_n 0, 1) := by decide +kernel
theorem dX6_copies_53 : decode cX6_copies 53 = .ok (.getfield 17, 3) := by decide +kernel
theorem dX6_copies_56 : decode cX6_copies 56 = .ok (.iload_n 2, 1) := by decide +kernel
theorem dX6_copies_57 : decode cX6_copies 57 = .ok (.aload_n 0, 1) := by decide +kernel
theorem dX6_copies_58 : decode cX6_copies 58 = .ok (.getfield 17, 3) := by decide +kernel
theorem dX6_copies_61 : decode cX6_copies 61 = .ok (.iload_n 1, 1) := by decide +kernel
theorem dX6_copies_62 : decode cX6_copies 62 = .ok (.iaload, 1) := by decide +kernel
theorem dX6_copies_63 : decode cX6_copies 63 = .ok (.iastore, 1) := by decide +kernel
theorem dX6_copies_64 : decode cX6_copies 64 = .ok (.return_, 1) := by decide +kernel
theorem cp_loop (g : GX) (d : Nat) {mo sz a c n : Nat} {rk kn ar ac : Int} {zs D0 LN SG O1 O2 : Nat → Int} (ha : a < 460) (hc : c < 460) (hn : LN a = (n : Int)) (hn1 : n ≤ 100) (h0 : ∀ c, c < 460 → NuV D0 LN SG c (zs c)) : ∀ (x k : Nat), k + x = n → ∀ {V : AH} {D : Nat → Int}, V mo = some (moO mo rk kn ar ac) → MA g mo V D LN SG O1 O2 → (∀ q, q < 100 * c ∨ 100 * c + 100 ≤ q → D q = D0 q) → (∀ q, q < k → dg D c q = dg D0 a q) → (∀ q, k ≤ q → q < 100 → D (100 * c + q) = D0 (100 * c + q)) → AW g mX6_copies d 2 [(3, .int (iZ k)), (0, .ref mo), (1, .int (iZ a)), (2, .int (iZ c))] [] V sz (VX V sz (EN mo) (fun q V' => none = q ∧ MN g mo V' (upF zs c (zs a))))
  | 0, k, hx, V, D, hmo, hA, hD, hK, hK2 => by
    refine aw_iload_n dX6_copies_2 (by rfl) ?_
    refine aw_aload_n dX6_copies_3 (by rfl) (Or.inr ⟨_, rfl⟩) ?_
    refine aw_get fX6_14 dX6_copies_4 hmo (by rfl) ?_
    refine aw_iload_n dX6_copies_7 (by rfl) ?_
    refine aw_ialdZ (a) dX6_copies_8 hA.2.1 (by omega) (by omega) (by omega) ?_
    refine aw_icmp_geZ (tgt := 40) dX6_copies_9 (by decide) (by omega) (by omega) (fun hc_9 => ?_) (fun hc_9 => ?_)
    · refine aw_aload_n dX6_copies_40 (by rfl) (Or.inr ⟨_, rfl⟩) ?_
      refine aw_get fX6_14 dX6_copies_41 hmo (by rfl) ?_
      refine aw_iload_n dX6_copies_44 (by rfl) ?_
      refine aw_aload_n dX6_copies_45 (by rfl) (Or.inr ⟨_, rfl⟩) ?_
      refine aw_get fX6_14 dX6_copies_46 hmo (by rfl) ?_
      refine aw_iload_n dX6_copies_49 (by rfl) ?_
      refine aw_ialdZ (a) dX6_copies_50 hA.2.1 (by omega) (by omega) (by omega) ?_
      refine aw_iastZ (c) dX6_copies_51 hA.2.1 (by omega) (by omega) (by omega) ?_
      refine VX.stp (V1 := AHu V (mo + 2) _) (fun a ha => AHu_ne (fun q => ha (by unfold EN; omega))) ?_
      have hmo1 : (AHu V (mo + 2) (aIz g 460 (upF LN c (LN a)))) mo = _ := (AHu_ne (by omega)).trans hmo
      have hA1 : MA g mo (AHu V (mo + 2) (aIz g 460 (upF LN c (LN a)))) D (upF LN c (LN a)) SG O1 O2 := hA.l
      refine aw_aload_n dX6_copies_52 (by rfl) (Or.inr ⟨_, rfl⟩) ?_
      refine aw_get fX6_17 dX6_copies_53 hmo1 (by rfl) ?_
      refine aw_iload_n dX6_copies_56 (by rfl) ?_
      refine aw_aload_n dX6_copies_57 (by rfl) (Or.inr ⟨_, rfl⟩) ?_
      refine aw_get fX6_17 dX6_copies_58 hmo1 (by rfl) ?_
      refine aw_iload_n dX6_copies_61 (by rfl) ?_
      refine aw_ialdZ (a) dX6_copies_62 hA1.2.2.1 (by omega) (by omega) (by omega) ?_
      refine aw_iastZ (c) dX6_copies_63 hA1.2.2.1 (by omega) (by omega) (by omega) ?_
      refine VX.stp (V1 := AHu (AHu V (mo + 2) (aIz g 460 (upF LN c (LN a)))) (mo + 3) _) (fun a ha => AHu_ne (fun q => ha (by unfold EN; omega))) ?_
      refine aw_ret dX6_copies_64 rfl ?_
      obtain rfl : k = n := by omega
      obtain ⟨n2, a1, a2, a3, a4, a5, a6⟩ := h0 a ha
      obtain rfl : k = n2 := by omega
      refine VX.ret ⟨rfl, D, upF LN c (LN a), upF SG c (SG a), O1, O2, hA1.s, nu_all h0 ⟨k, (upF_self _ _ _).trans a1, a2, (upF_self _ _ _).trans a3, fun q hq => by rw [hK q hq]; exact a4 q hq, by rw [mg_congr hK]; exact a5, ?_⟩ hD (fun k hk => upF_ne _ _ hk) (fun k hk => upF_ne _ _ hk)⟩
      rcases Nat.eq_zero_or_pos k with z | z
      · exact Or.inl z
      · rw [hK (k - 1) (by omega)]; exact a6
    · exact absurd hc_9 (by omega)
  | x + 1, k, hx, V, D, hmo, hA, hD, hK, hK2 => by
    have IH := fun k hk => @cp_loop g d mo sz a c n rk kn ar ac zs D0 LN SG O1 O2 ha hc hn hn1 h0 x k hk
    refine aw_iload_n dX6_copies_2 (by rfl) ?_
    refine aw_aload_n dX6_copies_3 (by rfl) (Or.inr ⟨_, rfl⟩) ?_
    refine aw_get fX6_14 dX6_copies_4 hmo (by rfl) ?_
    refine aw_iload_n dX6_copies_7 (by rfl) ?_
    refine aw_ialdZ (a) dX6_copies_8 hA.2.1 (by omega) (by omega) (by omega) ?_
    refine aw_icmp_geZ (tgt := 40) dX6_copies_9 (by decide) (by omega) (by omega) (fun hc_9 => ?_) (fun hc_9 => ?_)
    · exact absurd hc_9 (by omega)
    · refine aw_aload_n dX6_copies_12 (by rfl) (Or.inr ⟨_, rfl⟩) ?_
      refine aw_get fX6_8 dX6_copies_13 hmo (by rfl) ?_
      refine aw_bipushZ dX6_copies_16 (by decide) ?_
      refine aw_iload_n dX6_copies_18 (by rfl) ?_
      refine aw_imulZ dX6_copies_19 ?_
      refine aw_iload_n dX6_copies_20 (by rfl) ?_
      refine aw_iaddZ dX6_copies_21 ?_
      have hsrc : D (100 * a + k) = D0 (100 * a + k) := by
        by_cases e : a = c
        · rw [e]; exact hK2 k (Nat.le_refl _) (by omega)
        · exact hD _ (by omega)
      refine aw_aload_n dX6_copies_22 (by rfl) (Or.inr ⟨_, rfl⟩) ?_
      refine aw_get fX6_8 dX6_copies_23 hmo (by rfl) ?_
      refine aw_bipushZ dX6_copies_26 (by decide) ?_
      refine aw_iload_n dX6_copies_28 (by rfl) ?_
      refine aw_imulZ dX6_copies_29 ?_
      refine aw_iload_n dX6_copies_30 (by rfl) ?_
      refine aw_iaddZ dX6_copies_31 ?_
      refine aw_ialdZ (100 * a + k) dX6_copies_32 hA.1 (by omega) (by omega) (by omega) ?_
      refine aw_iastZ (100 * c + k) dX6_copies_33 hA.1 (by omega) (by omega) (by omega) ?_
      refine VX.stp (V1 := AHu V (mo + 1) _) (fun a ha => AHu_ne (fun q => ha (by unfold EN; omega))) ?_
      refine aw_iincZ dX6_copies_34 (by rfl) (by decide) ?_
      refine aw_goto (tgt := 2) dX6_copies_37 (by decide) ?_
      rw [show ((k : Int) + 1) = ((k + 1 : Nat) : Int) by omega]
      refine aw_pk [3, 0, 1, 2] (by rfl) ?_
      exact IH (k + 1) (by omega) ((AHu_ne (by omega)).trans hmo) hA.d (fun q hq => by rw [upF_ne _ _ (by omega)]; exact hD q hq) (fun q hq => by
        show upF D (100 * c + k) (D (100 * a + k)) (100 * c + q) = _
        by_cases e : q = k
        · rw [e, upF_self]; exact hsrc
        · rw [upF_ne _ _ (by omega)]; exact hK q (by omega)) (fun q h1 h2 => by rw [upF_ne _ _ (by omega)]; exact hK2 q (by omega) h2)
theorem m_copies (g : GX) (d : Nat) {V : AH} {mo sz a c : Nat} {zs : Nat → Int} (hm : moV mo V) (h : MN g mo V zs) (ha : a < 460) (hc : c < 460) : AMet g mX6_copies d [.ref mo, .int (iZ a), .int (iZ c)] V sz (VX V sz (EN mo) (fun q V' => none = q ∧ MN g mo V' (upF zs c (zs a)))) := by
  obtain ⟨rk, kn, ar, ac, hmo⟩ := hm
  obtain ⟨D, LN, SG, O1, O2, hA, h0⟩ := h
  obtain ⟨n, a1, a2, -⟩ := id (h0 a ha)
  refine AMet.of rfl rfl (Nat.le_of_ble_eq_true rfl) ?_
  show AW g mX6_copies d 0 [(0, .ref mo), (1, .int (iZ a)), (2, .int (iZ c))] [] V sz _
  refine aw_iconstZ dX6_copies_0 ?_
  refine aw_istore_n dX6_copies_1 (by decide) ?_
  refine aw_pk [3, 0, 1, 2] (by rfl) ?_
  exact cp_loop g d ha hc a1 a2 h0 n 0 (by omega) hmo hA (fun _ _ => rfl) (fun q hq => absurd hq (by omega)) (fun _ _ _ => rfl)

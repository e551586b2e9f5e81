/-! ===== the reference: commonOf, leadsOf, index ===== -/
theorem m_div (g : GX) (d : Nat) {V : AH} {mo sz a e c : Nat} {rk kn ar ac : Int} {zs : Nat → Int} (hmo : V mo = some (moO mo rk kn ar ac)) (hM : MN g mo V zs) (ha : a < 460) (he : e < 460) (hc : c < 460) (hca : a ≠ c) (hce : e ≠ c) (hz : zs e ≠ 0) : AMet g mX6_divides (d + 1) [.ref mo, .int (iZ a), .int (iZ e), .int (iZ c)] V sz (VX V sz (EN mo) (fun q V' => none = q ∧ MN g mo V' (upF zs c ((zs a).tdiv (zs e))))) := by
  obtain ⟨D, LN, SG, O1, O2, hA, h0⟩ := hM
  obtain ⟨n, hn, -⟩ := id (h0 e he)
  refine (m_divides g d hmo hA h0 ha he hc hca hce hz hn).mono ?_
  rintro q V' sz' dc ds ⟨rfl, rfl, rfl, hE, rfl, D', LN', SG', X1, X2, hA', h0', -⟩
  exact ⟨rfl, rfl, rfl, hE, rfl, D', LN', SG', X1, X2, hA', h0'⟩
theorem MN.absn {g : GX} {mo : Nat} {V : AH} {zs D LN SG O1 O2 : Nat → Int} {c : Nat} {s : Int} (hA : MA g mo V D LN SG O1 O2) (h0 : ∀ q, q < 460 → NuV D LN SG q (zs q)) (hs : s = if zs c = 0 then 0 else 1) : MN g mo (AHu V (mo + 3) (aIz g 460 (upF SG c s))) (upF zs c (ab (zs c))) := by
  refine ⟨D, LN, _, O1, O2, hA.s, fun q hq => ?_⟩
  by_cases e : q = c
  · subst e
    obtain ⟨w, a1, a2, a3, a4, a5, a6⟩ := h0 q hq
    rw [upF_self]
    refine ⟨w, a1, a2, ?_, a4, ?_, a6⟩
    · rw [upF_self, hs]
      by_cases z : zs q = 0
      · rw [if_pos z, z]; rfl
      · rw [if_neg z, Int.sign_eq_one_of_pos (by unfold ab; omega)]
    · rw [a5]; unfold ab; omega
  · rw [upF_ne _ _ e]
    exact (h0 q hq).kept (fun _ _ => rfl) rfl (upF_ne _ _ e)
def CoF (zs z : Nat → Int) (a e : Nat) : Prop := ∀ q, q ≠ a → q ≠ e → ¬ (416 ≤ q ∧ q ≤ 418) → z q = zs q
abbrev mX6_commonOf : MI := (yX6_commonOf, cX6_commonOf, 3, none, noX)
theorem dX6_commonOf_0 : decode cX6_commonOf 0 = .ok (.aload_n 0, 1) := by decide +kernel
theorem dX6_commonOf_1 : decode cX6_commonOf 1 = .ok (.getfield 17, 3) := by decide +kernel
theorem dX6_commonOf_4 : decode cX6_commonOf 4 = .ok (.iload_n 1, 1) := by decide +kernel
theorem dX6_commonOf_5 : decode cX6_commonOf 5 = .ok (.aload_n 0, 1) := by decide +kernel
theorem dX6_commonOf_6 : decode cX6_commonOf 6 = .ok (.getfield 17, 3) := by decide +kernel
theorem dX6_commonOf_9 : decode cX6_commonOf 9 = .ok (.iload_n 1, 1) := by decide +kernel
theorem dX6_commonOf_10 : decode cX6_commonOf 10 = .ok (.iaload, 1) := by decide +kernel
theorem dX6_commonOf_11 : decode cX6_commonOf 11 = .ok (.ifCond .ne 7, 3) := by decide +kernel
theorem dX6_commonOf_14 : decode cX6_commonOf 14 = .ok (.iconst 0, 1) := by decide +kernel
theorem dX6_commonOf_15 : decode cX6_commonOf 15 = .ok (.goto 4, 3) := by decide +kernel
theorem dX6_commonOf_18 : decode cX6_commonOf 18 = .ok (.iconst 1, 1) := by decide +kernel
theorem dX6_commonOf_19 : decode cX6_commonOf 19 = .ok (.iastore, 1) := by decide +kernel
theorem dX6_commonOf_20 : decode cX6_commonOf 20 = .ok (.aload_n 0, 1) := by decide +kernel
theorem dX6_commonOf_21 : decode cX6_commonOf 21 = .ok (.getfield 17, 3) := by decide +kernel
theorem dX6_commonOf_24 : decode cX6_commonOf 24 = .ok (.iload_n 2, 1) := by decide +kernel
theorem dX6_commonOf_25 : decode cX6_commonOf 25 = .ok (.aload_n 0, 1) := by decide +kernel
theorem dX6_commonOf_26 : decode cX6_commonOf 26 = .ok (.getfield 17, 3) := by decide +kernel
theorem dX6_commonOf_29 : decode cX6_commonOf 29 = .ok (.iload_n 2, 1) := by decide +kernel
theorem dX6_commonOf_30 : decode cX6_commonOf 30 = .ok (.iaload, 1) := by decide +kernel
theorem dX6_commonOf_31 : decode cX6_commonOf 31 = .ok (.ifCond .ne 7, 3) := by decide +kernel
theorem dX6_commonOf_34 : decode cX6_commonOf 34 = .ok (.iconst 0, 1) := by decide +kernel
theorem dX6_commonOf_35 : decode cX6_commonOf 35 = .ok (.goto 4, 3) := by decide +kernel
theorem dX6_commonOf_38 : decode cX6_commonOf 38 = .ok (.iconst 1, 1) := by decide +kernel
theorem dX6_commonOf_39 : decode cX6_commonOf 39 = .ok (.iastore, 1) := by decide +kernel
theorem dX6_commonOf_40 : decode cX6_commonOf 40 = .ok (.aload_n 0, 1) := by decide +kernel
theorem dX6_commonOf_41 : decode cX6_commonOf 41 = .ok (.getfield 17, 3) := by decide +kernel
theorem dX6_commonOf_44 : decode cX6_commonOf 44 = .ok (.iload_n 2, 1) := by decide +kernel
theorem dX6_commonOf_45 : decode cX6_commonOf 45 = .ok (.iaload, 1) := by decide +kernel
theorem dX6_commonOf_46 : decode cX6_commonOf 46 = .ok (.ifCond .eq 57, 3) := by decide +kernel
theorem dX6_commonOf_49 : decode cX6_commonOf 49 = .ok (.aload_n 0, 1) := by decide +kernel
theorem dX6_commonOf_50 : decode cX6_commonOf 50 = .ok (.iload_n 1, 1) := by decide +kernel
theorem dX6_commonOf_51 : decode cX6_commonOf 51 = .ok (.iload_n 2, 1) := by decide +kernel
theorem dX6_commonOf_52 : decode cX6_commonOf 52 = .ok (.sipush 416, 3) := by decide +kernel
theorem dX6_commonOf_55 : decode cX6_commonOf 55 = .ok (.invokevirtual 91, 3) := by decide +kernel
theorem dX6_commonOf_58 : decode cX6_commonOf 58 = .ok (.aload_n 0, 1) := by decide +kernel
theorem dX6_commonOf_59 : decode cX6_commonOf 59 = .ok (.sipush 416, 3) := by decide +kernel
theorem dX6_commonOf_62 : decode cX6_commonOf 62 = .ok (.iload_n 2, 1) := by decide +kernel
theorem dX6_commonOf_63 : decode cX6_commonOf 63 = .ok (.sipush 417, 3) := by decide +kernel
theorem dX6_commonOf_66 : decode cX6_commonOf 66 = .ok (.invokevirtual 97, 3) := by decide +kernel
theorem dX6_commonOf_69 : decode cX6_commonOf 69 = .ok (.aload_n 0, 1) := by decide +kernel
theorem dX6_commonOf_70 : decode cX6_commonOf 70 = .ok (.iload_n 1, 1) := by decide +kernel
theorem dX6_commonOf_71 : decode cX6_commonOf 71 = .ok (.sipush 417, 3) := by decide +kernel
theorem dX6_commonOf_74 : decode cX6_commonOf 74 = .ok (.iload_n 1, 1) := by decide +kernel
theorem dX6_commonOf_75 : decode cX6_commonOf 75 = .ok (.invokevirtual 94, 3) := by decide +kernel
theorem dX6_commonOf_78 : decode cX6_commonOf 78 = .ok (.aload_n 0, 1) := by decide +kernel
theorem dX6_commonOf_79 : decode cX6_commonOf 79 = .ok (.iload_n 1, 1) := by decide +kernel
theorem dX6_commonOf_80 : decode cX6_commonOf 80 = .ok (.sipush 418, 3) := by decide +kernel
theorem dX6_commonOf_83 : decode cX6_commonOf 83 = .ok (.invokevirtual 67, 3) := by decide +kernel
theorem dX6_commonOf_86 : decode cX6_commonOf 86 = .ok (.aload_n 0, 1) := by decide +kernel
theorem dX6_commonOf_87 : decode cX6_commonOf 87 = .ok (.iload_n 2, 1) := by decide +kernel
theorem dX6_commonOf_88 : decode cX6_commonOf 88 = .ok (.iload_n 1, 1) := by decide +kernel
theorem dX6_commonOf_89 : decode cX6_commonOf 89 = .ok (.invokevirtual 67, 3) := by decide +kernel
theorem dX6_commonOf_92 : decode cX6_commonOf 92 = .ok (.aload_n 0, 1) := by decide +kernel
theorem dX6_commonOf_93 : decode cX6_commonOf 93 = .ok (.sipush 418, 3) := by decide +kernel
theorem dX6_commonOf_96 : decode cX6_commonOf 96 = .ok (.iload_n 2, 1) := by decide +kernel
theorem dX6_commonOf_97 : decode cX6_commonOf 97 = .ok (.invokevirtual 67, 3) := by decide +kernel
theorem dX6_commonOf_100 : decode cX6_commonOf 100 = .ok (.goto (-60), 3) := by decide +kernel
theorem dX6_commonOf_103 : decode cX6_commonOf 103 = .ok (.return_, 1) := by decide +kernel
theorem nat_rem (x y : Nat) : (x : Int) - ((x / y : Nat) : Int) * (y : Int) = ((x % y : Nat) : Int) := by
  have h2 := Nat.div_add_mod x y
  rw [Nat.mul_comm] at h2
  have h4 : ((x / y * y : Nat) : Int) = ((x / y : Nat) : Int) * (y : Int) := Int.natCast_mul _ _
  omega
theorem nat_sm {g : GX} {mo : Nat} {V : AH} {zs : Nat → Int} {x : Int} {c : Nat} (hM : MN g mo V zs) (hc : c < 460) (h : x ≤ zs c) (h0 : 0 ≤ x := by omega) : SmM x := by
  have := hM.sm hc
  unfold SmM at *
  omega
theorem com_loop (d : Nat) {g : GX} {V0 : AH} {mo sz a e G : Nat} {rk kn ar ac : Int} {zs : Nat → Int} (ha : a < 460) (he : e < 460) (hae : a ≠ e) (ha1 : ¬ (416 ≤ a ∧ a ≤ 418)) (he1 : ¬ (416 ≤ e ∧ e ≤ 418)) : ∀ (n : Nat) {x y : Nat}, y < n → Nat.gcd x y = G → ∀ {V : AH} {z : Nat → Int}, V mo = some (moO mo rk kn ar ac) → MN g mo V z → (∀ q, ¬ EN mo q → V q = V0 q) → z a = (x : Int) → z e = (y : Int) → CoF zs z a e → AW g mX6_commonOf (d + 2) 40 [(0, .ref mo), (1, .int (iZ a)), (2, .int (iZ e))] [] V sz (VX V0 sz (EN mo) (fun q V' => none = q ∧ ∃ z', MN g mo V' z' ∧ z' a = (G : Int) ∧ z' e = 0 ∧ CoF zs z' a e))
  | 0, x, y, hy, hg, V, z, hmo, hM, hV, hza, hze, hF => absurd hy (by omega)
  | n + 1, x, y, hy, hg, V, z, hmo, hM, hV, hza, hze, hF => by
    have IH := @com_loop d g V0 mo sz a e G rk kn ar ac zs ha he hae ha1 he1 n
    obtain ⟨D, LN, SG, O1, O2, hA, h0⟩ := id hM
    have hsg : SG e = (y : Int).sign := by obtain ⟨_, _, _, h3, _⟩ := h0 e he; rw [h3, hze]
    refine aw_aload_n dX6_commonOf_40 (by rfl) (Or.inr ⟨_, rfl⟩) ?_
    refine aw_get fX6_17 dX6_commonOf_41 hmo (by rfl) ?_
    refine aw_iload_n dX6_commonOf_44 (by rfl) ?_
    refine aw_ialdZ (e) dX6_commonOf_45 hA.2.2.1 (by omega) (by omega) (by omega) ?_
    refine aw_if_eqZ (tgt := 103) dX6_commonOf_46 (by decide) (by rw [hsg]; exact sgn_R _) (fun hc_46 => ?_) (fun hc_46 => ?_)
    · have hy0 : y = 0 := by rw [hsg] at hc_46; have := Int.sign_eq_zero_iff_zero.mp hc_46; omega
      refine aw_ret dX6_commonOf_103 rfl ?_
      exact ⟨rfl, rfl, rfl, hV, rfl, z, hM, by rw [hza, ← hg, hy0, Nat.gcd_zero_right], by rw [hze, hy0]; rfl, hF⟩
    · have hy0 : y ≠ 0 := fun z => hc_46 (by rw [hsg, z]; rfl)
      have hrem := nat_rem x y
      refine aw_aload_n dX6_commonOf_49 (by rfl) (Or.inr ⟨_, rfl⟩) ?_
      refine aw_iload_n dX6_commonOf_50 (by rfl) ?_
      refine aw_iload_n dX6_commonOf_51 (by rfl) ?_
      refine aw_sipushZ dX6_commonOf_52 (by decide) ?_
      show AW _ _ _ _ _ (.int (iZ ((416 : Nat) : Int)) :: _) _ _ _
      refine aw_callv vX6_91 dX6_commonOf_55 hmo (m_div g d (a := a) (e := e) (c := 416) hmo hM (by omega) (by omega) (by omega) (by omega) (by omega) (by omega)) (by rfl) (by rfl) (by omega) (Nat.le_of_ble_eq_true rfl) ?_
      rintro _ V1 _ _ _ ⟨rfl, rfl, rfl, hE1, rfl, hM1⟩ -
      refine q0 ?_
      rw [hza, hze, show ((x : Int)).tdiv (y : Int) = ((x / y : Nat) : Int) from rfl] at hM1
      have hmo1 := (hE1 mo (by unfold EN; omega)).trans hmo
      have hdm := Nat.div_add_mod x y
      have hle : x / y * y ≤ x := Nat.div_mul_le_self x y
      refine aw_aload_n dX6_commonOf_58 (by rfl) (Or.inr ⟨_, rfl⟩) ?_
      refine aw_sipushZ dX6_commonOf_59 (by decide) ?_
      refine aw_iload_n dX6_commonOf_62 (by rfl) ?_
      refine aw_sipushZ dX6_commonOf_63 (by decide) ?_
      show AW _ _ _ _ _ (.int (iZ ((417 : Nat) : Int)) :: _ :: .int (iZ ((416 : Nat) : Int)) :: _) _ _ _
      refine aw_callv vX6_97 dX6_commonOf_66 hmo1 (m_multiplies g d (a := 416) (e := e) (c := 417) ⟨_, _, _, _, hmo1⟩ hM1 (by omega) (by omega) (by omega) (by rw [upF_self, upF_ne _ _ (by omega), hze]; exact nat_sm hM (c := a) (by omega) (by rw [hza]; exact_mod_cast hle))) (by rfl) (by rfl) (by omega) (Nat.le_of_ble_eq_true rfl) ?_
      rintro _ V2 _ _ _ ⟨rfl, rfl, rfl, hE2, rfl, hM2⟩ -
      refine q0 ?_
      rw [upF_self, upF_ne _ _ (show e ≠ 416 by omega), hze] at hM2
      have hmo2 := (hE2 mo (by unfold EN; omega)).trans hmo1
      refine aw_aload_n dX6_commonOf_69 (by rfl) (Or.inr ⟨_, rfl⟩) ?_
      refine aw_iload_n dX6_commonOf_70 (by rfl) ?_
      refine aw_sipushZ dX6_commonOf_71 (by decide) ?_
      refine aw_iload_n dX6_commonOf_74 (by rfl) ?_
      show AW _ _ _ _ _ (_ :: .int (iZ ((417 : Nat) : Int)) :: _) _ _ _
      refine aw_callv vX6_94 dX6_commonOf_75 hmo2 (m_less g d (a := a) (e := 417) (c := a) ⟨_, _, _, _, hmo2⟩ hM2 (by omega) (by omega) (by omega) (by rw [upF_self, upF_ne _ _ (by omega), upF_ne _ _ (by omega), hza, hrem]; exact nat_sm hM (c := a) (by omega) (by rw [hza]; exact_mod_cast Nat.mod_le x y))) (by rfl) (by rfl) (by omega) (Nat.le_of_ble_eq_true rfl) ?_
      rintro _ V3 _ _ _ ⟨rfl, rfl, rfl, hE3, rfl, hM3⟩ -
      refine q0 ?_
      rw [upF_self, upF_ne _ _ (show a ≠ 417 by omega), upF_ne _ _ (show a ≠ 416 by omega), hza, hrem] at hM3
      have hmo3 := (hE3 mo (by unfold EN; omega)).trans hmo2
      refine aw_aload_n dX6_commonOf_78 (by rfl) (Or.inr ⟨_, rfl⟩) ?_
      refine aw_iload_n dX6_commonOf_79 (by rfl) ?_
      refine aw_sipushZ dX6_commonOf_80 (by decide) ?_
      show AW _ _ _ _ _ (.int (iZ ((418 : Nat) : Int)) :: _) _ _ _
      refine aw_callv vX6_67 dX6_commonOf_83 hmo3 (m_copies g (d + 1) (a := a) (c := 418) ⟨_, _, _, _, hmo3⟩ hM3 (by omega) (by omega)) (by rfl) (by rfl) (by omega) (Nat.le_of_ble_eq_true rfl) ?_
      rintro _ V4 _ _ _ ⟨rfl, rfl, rfl, hE4, rfl, hM4⟩ -
      refine q0 ?_
      have hmo4 := (hE4 mo (by unfold EN; omega)).trans hmo3
      refine aw_aload_n dX6_commonOf_86 (by rfl) (Or.inr ⟨_, rfl⟩) ?_
      refine aw_iload_n dX6_commonOf_87 (by rfl) ?_
      refine aw_iload_n dX6_commonOf_88 (by rfl) ?_
      refine aw_callv vX6_67 dX6_commonOf_89 hmo4 (m_copies g (d + 1) (a := e) (c := a) ⟨_, _, _, _, hmo4⟩ hM4 (by omega) (by omega)) (by rfl) (by rfl) (by omega) (Nat.le_of_ble_eq_true rfl) ?_
      rintro _ V5 _ _ _ ⟨rfl, rfl, rfl, hE5, rfl, hM5⟩ -
      refine q0 ?_
      have hmo5 := (hE5 mo (by unfold EN; omega)).trans hmo4
      refine aw_aload_n dX6_commonOf_92 (by rfl) (Or.inr ⟨_, rfl⟩) ?_
      refine aw_sipushZ dX6_commonOf_93 (by decide) ?_
      refine aw_iload_n dX6_commonOf_96 (by rfl) ?_
      show AW _ _ _ _ _ (_ :: .int (iZ ((418 : Nat) : Int)) :: _) _ _ _
      refine aw_callv vX6_67 dX6_commonOf_97 hmo5 (m_copies g (d + 1) (a := 418) (c := e) ⟨_, _, _, _, hmo5⟩ hM5 (by omega) (by omega)) (by rfl) (by rfl) (by omega) (Nat.le_of_ble_eq_true rfl) ?_
      rintro _ V6 _ _ _ ⟨rfl, rfl, rfl, hE6, rfl, hM6⟩ -
      refine q0 ?_
      have hmo6 := (hE6 mo (by unfold EN; omega)).trans hmo5
      refine aw_goto (tgt := 40) dX6_commonOf_100 (by decide) ?_
      refine IH (x := y) (y := x % y) (by have := Nat.mod_lt x (show 0 < y by omega); omega) (by rw [Nat.gcd_comm, ← Nat.gcd_rec, Nat.gcd_comm]; exact hg) hmo6 hM6 (fun q hq => (hE6 q hq).trans ((hE5 q hq).trans ((hE4 q hq).trans ((hE3 q hq).trans ((hE2 q hq).trans ((hE1 q hq).trans (hV q hq))))))) ?_ ?_ (fun q h1 h2 h3 => ?_)
      · rw [upF_ne _ _ (by omega), upF_self, upF_ne _ _ (by omega), upF_ne _ _ (by omega), upF_ne _ _ (by omega), upF_ne _ _ (by omega)]; exact hze
      · rw [upF_self, upF_ne _ _ (by omega), upF_self, upF_self]
      · rw [upF_ne _ _ h2, upF_ne _ _ h1, upF_ne _ _ (by omega), upF_ne _ _ h1, upF_ne _ _ (by omega), upF_ne _ _ (by omega)]; exact hF q h1 h2 h3
theorem m_commonOf (g : GX) (d : Nat) {V : AH} {mo sz a e : Nat} {rk kn ar ac : Int} {zs : Nat → Int} (hmo : V mo = some (moO mo rk kn ar ac)) (hM : MN g mo V zs) (ha : a < 460) (he : e < 460) (hae : a ≠ e) (ha1 : ¬ (416 ≤ a ∧ a ≤ 418)) (he1 : ¬ (416 ≤ e ∧ e ≤ 418)) : AMet g mX6_commonOf (d + 2) [.ref mo, .int (iZ a), .int (iZ e)] V sz (VX V sz (EN mo) (fun q V' => none = q ∧ ∃ z', MN g mo V' z' ∧ z' a = ((Int.gcd (zs a) (zs e) : Nat) : Int) ∧ z' e = 0 ∧ CoF zs z' a e)) := by
  obtain ⟨D, LN, SG, O1, O2, hA, h0⟩ := id hM
  have hs1 : SG a = (zs a).sign := by obtain ⟨_, _, _, h3, _⟩ := h0 a ha; exact h3
  have K1 : ∀ {s : Int}, s = (if zs a = 0 then 0 else 1) → AW g mX6_commonOf (d + 2) 20 [(0, .ref mo), (1, .int (iZ a)), (2, .int (iZ e))] [] (AHu V (mo + 3) (aIz g 460 (upF SG a s))) sz (VX V sz (EN mo) (fun q V' => none = q ∧ ∃ z', MN g mo V' z' ∧ z' a = ((Int.gcd (zs a) (zs e) : Nat) : Int) ∧ z' e = 0 ∧ CoF zs z' a e)) := fun {s} hs => by
    have hM1 := MN.absn (c := a) hA h0 hs
    have hmo1 : AHu V (mo + 3) (aIz g 460 (upF SG a s)) mo = some (moO mo rk kn ar ac) := (AHu_ne (by omega)).trans hmo
    have hE1 : ∀ q, ¬ EN mo q → AHu V (mo + 3) (aIz g 460 (upF SG a s)) q = V q := fun q hq => AHu_ne (fun z => hq (by unfold EN; omega))
    generalize AHu V (mo + 3) (aIz g 460 (upF SG a s)) = V1 at *
    obtain ⟨D1, LN1, SG1, O11, O21, hA1, h01⟩ := id hM1
    have hs3 : SG1 e = (zs e).sign := by obtain ⟨_, _, _, h3, _⟩ := h01 e he; rw [h3, upF_ne _ _ (by omega)]
    have K2 : ∀ {s : Int}, s = (if upF zs a (ab (zs a)) e = 0 then 0 else 1) → AW g mX6_commonOf (d + 2) 40 [(0, .ref mo), (1, .int (iZ a)), (2, .int (iZ e))] [] (AHu V1 (mo + 3) (aIz g 460 (upF SG1 e s))) sz (VX V sz (EN mo) (fun q V' => none = q ∧ ∃ z', MN g mo V' z' ∧ z' a = ((Int.gcd (zs a) (zs e) : Nat) : Int) ∧ z' e = 0 ∧ CoF zs z' a e)) := fun {s} hs => by
      have hM2 := MN.absn (c := e) hA1 h01 hs
      rw [upF_ne _ _ (show e ≠ a by omega)] at hM2
      refine com_loop d (x := (zs a).natAbs) (y := (zs e).natAbs) (zs := zs) ha he hae ha1 he1 ((zs e).natAbs + 1) (by omega) rfl ((AHu_ne (by omega)).trans hmo1) hM2 (fun q hq => (AHu_ne (fun z => hq (by unfold EN; omega))).trans (hE1 q hq)) ?_ ?_ (fun q h1 h2 _ => ?_)
      · rw [upF_ne _ _ hae, upF_self]; rfl
      · rw [upF_self]; rfl
      · rw [upF_ne _ _ h2, upF_ne _ _ h1]
    refine aw_aload_n dX6_commonOf_20 (by rfl) (Or.inr ⟨_, rfl⟩) ?_
    refine aw_get fX6_17 dX6_commonOf_21 hmo1 (by rfl) ?_
    refine aw_iload_n dX6_commonOf_24 (by rfl) ?_
    refine aw_aload_n dX6_commonOf_25 (by rfl) (Or.inr ⟨_, rfl⟩) ?_
    refine aw_get fX6_17 dX6_commonOf_26 hmo1 (by rfl) ?_
    refine aw_iload_n dX6_commonOf_29 (by rfl) ?_
    refine aw_ialdZ (e) dX6_commonOf_30 hA1.2.2.1 (by omega) (by omega) (by omega) ?_
    refine aw_if_neZ (tgt := 38) dX6_commonOf_31 (by decide) (by rw [hs3]; exact sgn_R _) (fun hc_31 => ?_) (fun hc_31 => ?_)
    · have hs2 : (1 : Int) = if upF zs a (ab (zs a)) e = 0 then 0 else 1 := by rw [upF_ne _ _ (by omega), if_neg (fun z => hc_31 (by rw [hs3, z]; rfl))]
      refine aw_iconstZ dX6_commonOf_38 ?_
      refine aw_iastZ e dX6_commonOf_39 hA1.2.2.1 (by omega) (by omega) (by omega) ?_
      exact K2 hs2
    · have hs2 : (0 : Int) = if upF zs a (ab (zs a)) e = 0 then 0 else 1 := by rw [upF_ne _ _ (by omega), if_pos (by rw [hs3] at hc_31; exact Int.sign_eq_zero_iff_zero.mp (by omega))]
      refine aw_iconstZ dX6_commonOf_34 ?_
      refine aw_goto (tgt := 39) dX6_commonOf_35 (by decide) ?_
      refine aw_iastZ e dX6_commonOf_39 hA1.2.2.1 (by omega) (by omega) (by omega) ?_
      exact K2 hs2
  refine AMet.of rfl rfl (Nat.le_of_ble_eq_true rfl) ?_
  show AW g mX6_commonOf (d + 2) 0 [(0, .ref mo), (1, .int (iZ a)), (2, .int (iZ e))] [] V sz _
  refine aw_aload_n dX6_commonOf_0 (by rfl) (Or.inr ⟨_, rfl⟩) ?_
  refine aw_get fX6_17 dX6_commonOf_1 hmo (by rfl) ?_
  refine aw_iload_n dX6_commonOf_4 (by rfl) ?_
  refine aw_aload_n dX6_commonOf_5 (by rfl) (Or.inr ⟨_, rfl⟩) ?_
  refine aw_get fX6_17 dX6_commonOf_6 hmo (by rfl) ?_
  refine aw_iload_n dX6_commonOf_9 (by rfl) ?_
  refine aw_ialdZ (a) dX6_commonOf_10 hA.2.2.1 (by omega) (by omega) (by omega) ?_
  refine aw_if_neZ (tgt := 18) dX6_commonOf_11 (by decide) (by rw [hs1]; exact sgn_R _) (fun hc_11 => ?_) (fun hc_11 => ?_)
  · have hs2 : (1 : Int) = if zs a = 0 then 0 else 1 := by rw [if_neg (fun z => hc_11 (by rw [hs1, z]; rfl))]
    refine aw_iconstZ dX6_commonOf_18 ?_
    refine aw_iastZ a dX6_commonOf_19 hA.2.2.1 (by omega) (by omega) (by omega) ?_
    exact K1 hs2
  · have hs2 : (0 : Int) = if zs a = 0 then 0 else 1 := by rw [if_pos (by rw [hs1] at hc_11; exact Int.sign_eq_zero_iff_zero.mp (by omega))]
    refine aw_iconstZ dX6_commonOf_14 ?_
    refine aw_goto (tgt := 19) dX6_commonOf_15 (by decide) ?_
    refine aw_iastZ a dX6_commonOf_19 hA.2.2.1 (by omega) (by omega) (by omega) ?_
    exact K1 hs2

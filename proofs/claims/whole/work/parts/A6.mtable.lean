/-! ===== the reference: within, made, table, tear ===== -/
abbrev mX6_within : MI := (yX6_within, cX6_within, 3, (some FieldType.int), noX)
theorem dX6_within_0 : decode cX6_within 0 = .ok (.aload_n 0, 1) := by decide +kernel
theorem dX6_within_1 : decode cX6_within 1 = .ok (.iload_n 1, 1) := by decide +kernel
theorem dX6_within_2 : decode cX6_within 2 = .ok (.iload_n 2, 1) := by decide +kernel
theorem dX6_within_3 : decode cX6_within 3 = .ok (.invokevirtual 186, 3) := by decide +kernel
theorem dX6_within_6 : decode cX6_within 6 = .ok (.ifCond .eq 20, 3) := by decide +kernel
theorem dX6_within_9 : decode cX6_within 9 = .ok (.aload_n 0, 1) := by decide +kernel
theorem dX6_within_10 : decode cX6_within 10 = .ok (.iload_n 1, 1) := by decide +kernel
theorem dX6_within_11 : decode cX6_within 11 = .ok (.iload_n 2, 1) := by decide +kernel
theorem dX6_within_12 : decode cX6_within 12 = .ok (.invokevirtual 227, 3) := by decide +kernel
theorem dX6_within_15 : decode cX6_within 15 = .ok (.ifCond .eq 7, 3) := by decide +kernel
theorem dX6_within_18 : decode cX6_within 18 = .ok (.iconst 1, 1) := by decide +kernel
theorem dX6_within_19 : decode cX6_within 19 = .ok (.goto 8, 3) := by decide +kernel
theorem dX6_within_22 : decode cX6_within 22 = .ok (.iconst 0, 1) := by decide +kernel
theorem dX6_within_23 : decode cX6_within 23 = .ok (.goto 4, 3) := by decide +kernel
theorem dX6_within_26 : decode cX6_within 26 = .ok (.iconst (-1), 1) := by decide +kernel
theorem dX6_within_27 : decode cX6_within 27 = .ok (.ireturn, 1) := by decide +kernel
/-- the reference's numbers below the answer's have changed, and others behind it -/
theorem RX.calc {g : GX} {mo : Nat} {V V' : AH} {zs z' : Nat → Int} {S : TSt} {A : ASt} {r κ : Nat} {l lk : Nat → Nat} (hR : RX g mo V zs S A) (hC : CSt g mo V' r κ (arZ A) (acZ A) l lk z') (hV : ∀ a, ¬ EC mo a → V' a = V a) (hz : ∀ q, 265 ≤ q → q < 365 → z' q = zs q) : RX g mo V' z' S A := by
  obtain ⟨-, -, -, ⟨F3, a3⟩, ⟨F4, a4⟩, ⟨F5, a5⟩, hT, -, hA, hTO, hAO⟩ := hR
  obtain ⟨RW, RK, hmo, hra, hrk, -, -, hM, -⟩ := hC
  refine ⟨⟨_, _, hmo⟩, ⟨RW, hra⟩, ⟨RK, hrk⟩, ⟨F3, (hV _ (by unfold EC; omega)).trans a3⟩, ⟨F4, (hV _ (by unfold EC; omega)).trans a4⟩, ⟨F5, (hV _ (by unfold EC; omega)).trans a5⟩, hT.kept (fun a h1 h2 => hV a (by unfold EC; omega)), hM, fun i j hi hj => ?_, hTO, hAO⟩
  rw [hz _ (by omega) (by have := hAO.2.1; have := hAO.2.2.1; omega)]
  exact hA i j hi hj
theorem m_within (g : GX) (d : Nat) {V : AH} {mo sz : Nat} {zs : Nat → Int} {S : TSt} {A : ASt} {t u : Int} (hR : RX g mo V zs S A) (ht : R32 t) (hu : R32 u) : AMet g mX6_within (d + 10) [.ref mo, .int (iZ t), .int (iZ u)] V sz (RE g mo V sz (fun q S' A' => S' = S ∧ A' = A ∧ ((∃ x y : Nat, x < 12 ∧ y < 12 ∧ t = (x : Int) ∧ u = (y : Int) ∧ 0 < S.r x ∧ 0 < S.r y ∧ S.c x = S.c y ∧ (WinP S x y ∧ some (.int (iZ 1)) = q ∨ ¬ WinP S x y ∧ some (.int (iZ 0)) = q)) ∨ (¬ (∃ n m : Nat, n < 12 ∧ m < 12 ∧ t = (n : Int) ∧ u = (m : Int) ∧ 0 < S.r n ∧ 0 < S.r m ∧ S.c n = S.c m) ∧ some (.int (iZ (-1))) = q)))) := by
  obtain ⟨⟨rk, kn, hmo⟩, -, -, -, -, -, hT, -, -, o1, -⟩ := id hR
  have hcb : ∀ n, n < 12 → S.c n ≤ 5 := fun n hn => (o1 n hn).2.1
  refine AMet.of rfl rfl (Nat.le_of_ble_eq_true rfl) ?_
  show AW g mX6_within (d + 10) 0 [(0, .ref mo), (1, .int (iZ t)), (2, .int (iZ u))] [] V sz _
  refine aw_aload_n dX6_within_0 (by rfl) (Or.inr ⟨_, rfl⟩) ?_
  refine aw_iload_n dX6_within_1 (by rfl) ?_
  refine aw_iload_n dX6_within_2 (by rfl) ?_
  refine aw_callv vX6_186 dX6_within_3 hmo (m_areAlike g (d + 8) (t := t) (u := u) hmo hT ht hu hcb) (by rfl) (by rfl) (by omega) (Nat.le_of_ble_eq_true rfl) ?_
  rintro _ _ _ _ _ ⟨rfl, rfl, rfl, rfl, rfl⟩ -
  refine q0 ?_
  refine aw_if_eqZ (tgt := 26) dX6_within_6 (by decide) (alZ_R _ _ _) (fun hc_6 => ?_) (fun hc_6 => ?_)
  · have hno := alZ_no hc_6
    refine aw_iconstZ dX6_within_26 ?_
    refine aw_iret dX6_within_27 rfl (by rfl) ?_
    exact ⟨rfl, rfl, rfl, fun _ _ => rfl, zs, S, A, hR, rfl, rfl, Or.inr ⟨hno, rfl⟩⟩
  · obtain ⟨x, y, hx, hy, rfl, rfl, hrx, hry, hcc⟩ := alZ_yes hc_6
    refine aw_aload_n dX6_within_9 (by rfl) (Or.inr ⟨_, rfl⟩) ?_
    refine aw_iload_n dX6_within_10 (by rfl) ?_
    refine aw_iload_n dX6_within_11 (by rfl) ?_
    refine aw_callv vX6_227 dX6_within_12 hmo (m_isWithin g d (x := x) (y := y) hR hx hy hcc) (by rfl) (by rfl) (by omega) (Nat.le_of_ble_eq_true rfl) ?_
    rintro _ V1 _ _ _ ⟨rfl, rfl, rfl, hE1, ⟨r1, κ1, l1, lk1, z1, z2, hC1, -, -, -, hF1, hF2⟩, hres⟩ -
    refine q0 ?_
    have hRX := hR.calc hC1 hE1 (fun q h1 h2 => by rw [hF1 q (by unfold InW; omega), hF2 q (by unfold InC; omega)])
    rcases hres with ⟨rfl, hw⟩ | ⟨rfl, hw⟩
    · refine aw_if_eqZ (tgt := 22) dX6_within_15 (by decide) (by omega) (fun h => absurd h (by decide)) (fun _ => ?_)
      refine aw_iconstZ dX6_within_18 ?_
      refine aw_goto (tgt := 27) dX6_within_19 (by decide) ?_
      refine aw_iret dX6_within_27 rfl (by rfl) ?_
      exact ⟨rfl, rfl, rfl, fun a ha => hE1 a (fun z => ha (by unfold EC at z; unfold EM; omega)), z2, S, A, hRX, rfl, rfl, Or.inl ⟨x, y, hx, hy, rfl, rfl, hrx, hry, hcc, Or.inl ⟨hw, rfl⟩⟩⟩
    · refine aw_if_eqZ (tgt := 22) dX6_within_15 (by decide) (by omega) (fun _ => ?_) (fun h => absurd rfl h)
      refine aw_iconstZ dX6_within_22 ?_
      refine aw_goto (tgt := 27) dX6_within_23 (by decide) ?_
      refine aw_iret dX6_within_27 rfl (by rfl) ?_
      exact ⟨rfl, rfl, rfl, fun a ha => hE1 a (fun z => ha (by unfold EC at z; unfold EM; omega)), z2, S, A, hRX, rfl, rfl, Or.inl ⟨x, y, hx, hy, rfl, rfl, hrx, hry, hcc, Or.inr ⟨hw, rfl⟩⟩⟩
/-- the reference's arrays of tables -/
def RTr (g : GX) (mo : Nat) (V : AH) (TH RR CC NN HH : Nat → Int) : Prop := V (mo + 8) = some (aZz g 12 TH) ∧ V (mo + 9) = some (aIz g 12 RR) ∧ V (mo + 10) = some (aIz g 12 CC) ∧ V (mo + 11) = some (aIz g 300 NN) ∧ V (mo + 12) = some (aZz g 60 HH)
def RTq (S : TSt) (TH RR CC NN HH : Nat → Int) : Prop := ∀ t, t < 12 → TH t = (if 0 < S.r t then 1 else 0) ∧ RR t = (S.r t : Int) ∧ CC t = (S.c t : Int) ∧ (∀ k, k < 25 → NN (25 * t + k) = S.N t k) ∧ ∀ i, i < 5 → HH (5 * t + i) = S.H t i
def ETb (mo : Nat) : Nat → Prop := fun a => mo + 8 ≤ a ∧ a ≤ mo + 12
/-- one table written anew -/
theorem RTq.up {S : TSt} {TH RR CC NN HH NN' HH' : Nat → Int} {t r c : Nat} {N H : Nat → Int} (h : RTq S TH RR CC NN HH) (hr : 0 < r) (hN : ∀ k, k < 25 → NN' (25 * t + k) = N k) (hN2 : ∀ k, ¬ (25 * t ≤ k ∧ k < 25 * t + 25) → NN' k = NN k) (hH : ∀ i, i < 5 → HH' (5 * t + i) = H i) (hH2 : ∀ k, ¬ (5 * t ≤ k ∧ k < 5 * t + 5) → HH' k = HH k) : RTq (upT S t r c N H) (upF TH t 1) (upF RR t r) (upF CC t c) NN' HH' := fun q hq => by
  obtain ⟨h1, h2, h3, h4, h5⟩ := h q hq
  unfold upT TSt.r TSt.c TSt.N TSt.H
  by_cases e : q = t
  · subst e
    refine ⟨?_, ?_, ?_, fun k hk => ?_, fun i hi => ?_⟩
    · simp only [upF_self]; rw [if_pos hr]
    · simp only [upF_self]
    · simp only [upF_self]
    · simp only [upF_self]; exact hN k hk
    · simp only [upF_self]; exact hH i hi
  · refine ⟨?_, ?_, ?_, fun k hk => ?_, fun i hi => ?_⟩
    · simp only [upF_ne _ _ e]; exact h1
    · simp only [upF_ne _ _ e]; exact h2
    · simp only [upF_ne _ _ e]; exact h3
    · simp only [upF_ne _ _ e]; rw [hN2 _ (by omega)]; exact h4 k hk
    · simp only [upF_ne _ _ e]; rw [hH2 _ (by omega)]; exact h5 i hi
/-- new tables: the reference as it stands -/
theorem RX.tabs {g : GX} {mo : Nat} {V V' : AH} {zs : Nat → Int} {S S' : TSt} {A : ASt} {TH RR CC NN HH : Nat → Int} (hR : RX g mo V zs S A) (hV : ∀ a, ¬ (ETb mo a ∨ a = mo + 15) → V' a = V a) (h15 : ∃ F : Nat → Int, V' (mo + 15) = some (aIz g 25 F)) (hr : RTr g mo V' TH RR CC NN HH) (hq : RTq S' TH RR CC NN HH) (hO : TOK S') : RX g mo V' zs S' A := by
  obtain ⟨⟨rk, kn, hmo⟩, ⟨F1, a1⟩, ⟨F2, a2⟩, ⟨F3, a3⟩, ⟨F4, a4⟩, -, -, hM, hA, hTO, hAO⟩ := hR
  exact ⟨⟨rk, kn, (hV _ (by unfold ETb; omega)).trans hmo⟩, ⟨F1, (hV _ (by unfold ETb; omega)).trans a1⟩, ⟨F2, (hV _ (by unfold ETb; omega)).trans a2⟩, ⟨F3, (hV _ (by unfold ETb; omega)).trans a3⟩, ⟨F4, (hV _ (by unfold ETb; omega)).trans a4⟩, h15, ⟨TH, RR, CC, NN, HH, hr.1, hr.2.1, hr.2.2.1, hr.2.2.2.1, hr.2.2.2.2, hq⟩, hM.kept (fun a ha => hV a (by unfold EN at ha; unfold ETb; omega)), hA, hO, hAO⟩
def mdH (HH : Nat → Int) (t r n : Nat) (f : Int) : Nat → Int := fun k => if 5 * t ≤ k ∧ k < 5 * t + n then (if f = 1 ∧ k - 5 * t < r then 1 else 0) else HH k
theorem mdH.up {HH : Nat → Int} {t r n : Nat} {f : Int} : upF (mdH HH t r n f) (5 * t + n) (if f = 1 ∧ n < r then 1 else 0) = mdH HH t r (n + 1) f := by
  funext k
  unfold upF mdH
  by_cases e : k = 5 * t + n
  · rw [if_pos e, if_pos (show 5 * t ≤ k ∧ k < 5 * t + (n + 1) by omega), show k - 5 * t = n by omega]
  · rw [if_neg e]
    by_cases e2 : 5 * t ≤ k ∧ k < 5 * t + n
    · rw [if_pos e2, if_pos (show 5 * t ≤ k ∧ k < 5 * t + (n + 1) by omega)]
    · rw [if_neg e2, if_neg (by omega)]
theorem mdH.nil {HH : Nat → Int} {t r : Nat} {f : Int} : mdH HH t r 0 f = HH := by funext k; unfold mdH; rw [if_neg (by omega)]
abbrev mX6_made : MI := (yX6_made, cX6_made, 6, none, noX)
theorem dX6_made_0 : decode cX6_made 0 = .ok (.aload_n 0, 1) := by decide +kernel
theorem dX6_made_1 : decode cX6_made 1 = .ok (.getfield 33, 3) := by decide +kernel
theorem dX6_made_4 : decode cX6_made 4 = .ok (.iload_n 1, 1) := by decide +kernel
theorem dX6_made_5 : decode cX6_made 5 = .ok (.iconst 1, 1) := by decide +kernel
theorem dX6_made_6 : decode cX6_made 6 = .ok (.bastore, 1) := by decide +kernel
theorem dX6_made_7 : decode cX6_made 7 = .ok (.aload_n 0, 1) := by decide +kernel
theorem dX6_made_8 : decode cX6_made 8 = .ok (.getfield 37, 3) := by decide +kernel
theorem dX6_made_11 : decode cX6_made 11 = .ok (.iload_n 1, 1) := by decide +kernel
theorem dX6_made_12 : decode cX6_made 12 = .ok (.iload_n 2, 1) := by decide +kernel
theorem dX6_made_13 : decode cX6_made 13 = .ok (.iastore, 1) := by decide +kernel
theorem dX6_made_14 : decode cX6_made 14 = .ok (.aload_n 0, 1) := by decide +kernel
theorem dX6_made_15 : decode cX6_made 15 = .ok (.getfield 40, 3) := by decide +kernel
theorem dX6_made_18 : decode cX6_made 18 = .ok (.iload_n 1, 1) := by decide +kernel
theorem dX6_made_19 : decode cX6_made 19 = .ok (.iload_n 3, 1) := by decide +kernel
theorem dX6_made_20 : decode cX6_made 20 = .ok (.iastore, 1) := by decide +kernel
theorem dX6_made_21 : decode cX6_made 21 = .ok (.iconst 0, 1) := by decide +kernel
theorem dX6_made_22 : decode cX6_made 22 = .ok (.istore 5, 2) := by decide +kernel
theorem dX6_made_24 : decode cX6_made 24 = .ok (.iload 5, 2) := by decide +kernel
theorem dX6_made_26 : decode cX6_made 26 = .ok (.iconst 5, 1) := by decide +kernel
theorem dX6_made_27 : decode cX6_made 27 = .ok (.if_icmp .ge 36, 3) := by decide +kernel
theorem dX6_made_30 : decode cX6_made 30 = .ok (.aload_n 0, 1) := by decide +kernel
theorem dX6_made_31 : decode cX6_made 31 = .ok (.getfield 46, 3) := by decide +kernel
theorem dX6_made_34 : decode cX6_made 34 = .ok (.iconst 5, 1) := by decide +kernel
theorem dX6_made_35 : decode cX6_made 35 = .ok (.iload_n 1, 1) := by decide +kernel
theorem dX6_made_36 : decode cX6_made 36 = .ok (.imul, 1) := by decide +kernel
theorem dX6_made_37 : decode cX6_made 37 = .ok (.iload 5, 2) := by decide +kernel
theorem dX6_made_39 : decode cX6_made 39 = .ok (.iadd, 1) := by decide +kernel
theorem dX6_made_40 : decode cX6_made 40 = .ok (.iload 4, 2) := by decide +kernel
theorem dX6_made_42 : decode cX6_made 42 = .ok (.ifCond .eq 13, 3) := by decide +kernel
theorem dX6_made_45 : decode cX6_made 45 = .ok (.iload 5, 2) := by decide +kernel
theorem dX6_made_47 : decode cX6_made 47 = .ok (.iload_n 2, 1) := by decide +kernel
theorem dX6_made_48 : decode cX6_made 48 = .ok (.if_icmp .ge 7, 3) := by decide +kernel
theorem dX6_made_51 : decode cX6_made 51 = .ok (.iconst 1, 1) := by decide +kernel
theorem dX6_made_52 : decode cX6_made 52 = .ok (.goto 4, 3) := by decide +kernel
theorem dX6_made_55 : decode cX6_made 55 = .ok (.iconst 0, 1) := by decide +kernel
theorem dX6_made_56 : decode cX6_made 56 = .ok (.bastore, 1) := by decide +kernel
theorem dX6_made_57 : decode cX6_made 57 = .ok (.iinc 5 1, 3) := by decide +kernel
theorem dX6_made_60 : decode cX6_made 60 = .ok (.goto (-36), 3) := by decide +kernel
theorem dX6_made_63 : decode cX6_made 63 = .ok (.return_, 1) := by decide +kernel
theorem md_loop (d : Nat) {g : GX} {V0 : AH} {mo sz t r : Nat} {rk kn ar ac f : Int} {HH : Nat → Int} (ht : t < 12) (hr : r ≤ 5) (hf : f = 0 ∨ f = 1) : ∀ (y i : Nat), i + y = 5 → ∀ {V : AH}, V mo = some (moO mo rk kn ar ac) → V (mo + 12) = some (aZz g 60 (mdH HH t r i f)) → (∀ a, a ≠ mo + 12 → V a = V0 a) → AW g mX6_made d 24 [(5, .int (iZ i)), (0, .ref mo), (1, .int (iZ t)), (2, .int (iZ r)), (4, .int (iZ f))] [] V sz (VX V0 sz (fun a => a = mo + 12) (fun q V' => none = q ∧ V' (mo + 12) = some (aZz g 60 (mdH HH t r 5 f))))
  | 0, i, hy, V, hmo, hH, hV => by
    obtain rfl : i = 5 := by omega
    refine aw_iload dX6_made_24 (by rfl) ?_
    refine aw_iconstZ dX6_made_26 ?_
    refine aw_icmp_geZ (tgt := 63) dX6_made_27 (by decide) (by omega) (by omega) (fun hc_27 => ?_) (fun hc_27 => ?_)
    · refine aw_ret dX6_made_63 rfl ?_
      exact ⟨rfl, rfl, rfl, fun a ha => hV a ha, rfl, hH⟩
    · exact absurd hc_27 (by omega)
  | y + 1, i, hy, V, hmo, hH, hV => by
    have IH := fun i hi => @md_loop d g V0 mo sz t r rk kn ar ac f HH ht hr hf y i hi
    refine aw_iload dX6_made_24 (by rfl) ?_
    refine aw_iconstZ dX6_made_26 ?_
    refine aw_icmp_geZ (tgt := 63) dX6_made_27 (by decide) (by omega) (by omega) (fun hc_27 => ?_) (fun hc_27 => ?_)
    · exact absurd hc_27 (by omega)
    · refine aw_aload_n dX6_made_30 (by rfl) (Or.inr ⟨_, rfl⟩) ?_
      refine aw_get fX6_46 dX6_made_31 hmo (by rfl) ?_
      refine aw_iconstZ dX6_made_34 ?_
      refine aw_iload_n dX6_made_35 (by rfl) ?_
      refine aw_imulZ dX6_made_36 ?_
      refine aw_iload dX6_made_37 (by rfl) ?_
      refine aw_iaddZ dX6_made_39 ?_
      refine aw_iload dX6_made_40 (by rfl) ?_
      refine aw_if_eqZ (tgt := 55) dX6_made_42 (by decide) (by omega) (fun hc_42 => ?_) (fun hc_42 => ?_)
      · refine aw_iconstZ dX6_made_55 ?_
        refine aw_zastZ (5 * t + i) dX6_made_56 hH (by omega) (by omega) (by omega) (by omega) ?_
        rw [show upF (mdH HH t r i f) (5 * t + i) 0 = mdH HH t r (i + 1) f by rw [← mdH.up, if_neg (by omega)]]
        refine aw_iincZ dX6_made_57 (by rfl) (by decide) ?_
        refine aw_goto (tgt := 24) dX6_made_60 (by decide) ?_
        rw [show ((i : Int) + 1) = ((i + 1 : Nat) : Int) by omega]
        exact IH (i + 1) (by omega) ((AHu_ne (by omega)).trans hmo) (AHu_self _ _ _) (fun a ha => (AHu_ne ha).trans (hV a ha))
      · refine aw_iload dX6_made_45 (by rfl) ?_
        refine aw_iload_n dX6_made_47 (by rfl) ?_
        refine aw_icmp_geZ (tgt := 55) dX6_made_48 (by decide) (by omega) (by omega) (fun hc_48 => ?_) (fun hc_48 => ?_)
        · refine aw_iconstZ dX6_made_55 ?_
          refine aw_zastZ (5 * t + i) dX6_made_56 hH (by omega) (by omega) (by omega) (by omega) ?_
          rw [show upF (mdH HH t r i f) (5 * t + i) 0 = mdH HH t r (i + 1) f by rw [← mdH.up, if_neg (by omega)]]
          refine aw_iincZ dX6_made_57 (by rfl) (by decide) ?_
          refine aw_goto (tgt := 24) dX6_made_60 (by decide) ?_
          rw [show ((i : Int) + 1) = ((i + 1 : Nat) : Int) by omega]
          exact IH (i + 1) (by omega) ((AHu_ne (by omega)).trans hmo) (AHu_self _ _ _) (fun a ha => (AHu_ne ha).trans (hV a ha))
        · refine aw_iconstZ dX6_made_51 ?_
          refine aw_goto (tgt := 56) dX6_made_52 (by decide) ?_
          refine aw_zastZ (5 * t + i) dX6_made_56 hH (by omega) (by omega) (by omega) (by omega) ?_
          rw [show upF (mdH HH t r i f) (5 * t + i) 1 = mdH HH t r (i + 1) f by rw [← mdH.up, if_pos (by omega)]]
          refine aw_iincZ dX6_made_57 (by rfl) (by decide) ?_
          refine aw_goto (tgt := 24) dX6_made_60 (by decide) ?_
          rw [show ((i : Int) + 1) = ((i + 1 : Nat) : Int) by omega]
          exact IH (i + 1) (by omega) ((AHu_ne (by omega)).trans hmo) (AHu_self _ _ _) (fun a ha => (AHu_ne ha).trans (hV a ha))
theorem m_made (g : GX) (d : Nat) {V : AH} {mo sz t r c : Nat} {rk kn ar ac f : Int} {TH RR CC NN HH : Nat → Int} (hmo : V mo = some (moO mo rk kn ar ac)) (hT : RTr g mo V TH RR CC NN HH) (ht : t < 12) (hr : r ≤ 5) (hf : f = 0 ∨ f = 1) : AMet g mX6_made d [.ref mo, .int (iZ t), .int (iZ r), .int (iZ c), .int (iZ f)] V sz (VX V sz (ETb mo) (fun q V' => none = q ∧ RTr g mo V' (upF TH t 1) (upF RR t r) (upF CC t c) NN (mdH HH t r 5 f))) := by
  obtain ⟨h1, h2, h3, h4, h5⟩ := hT
  refine AMet.of rfl rfl (Nat.le_of_ble_eq_true rfl) ?_
  show AW g mX6_made d 0 [(0, .ref mo), (1, .int (iZ t)), (2, .int (iZ r)), (3, .int (iZ c)), (4, .int (iZ f))] [] V sz _
  refine aw_aload_n dX6_made_0 (by rfl) (Or.inr ⟨_, rfl⟩) ?_
  refine aw_get fX6_33 dX6_made_1 hmo (by rfl) ?_
  refine aw_iload_n dX6_made_4 (by rfl) ?_
  refine aw_iconstZ dX6_made_5 ?_
  refine aw_zastZ (t) dX6_made_6 h1 (by omega) (by omega) (by omega) (by omega) ?_
  refine aw_aload_n dX6_made_7 (by rfl) (Or.inr ⟨_, rfl⟩) ?_
  refine aw_get fX6_37 dX6_made_8 ((AHu_ne (by omega)).trans hmo) (by rfl) ?_
  refine aw_iload_n dX6_made_11 (by rfl) ?_
  refine aw_iload_n dX6_made_12 (by rfl) ?_
  refine aw_iastZ (t) dX6_made_13 ((AHu_ne (by omega)).trans h2) (by omega) (by omega) (by omega) ?_
  refine aw_aload_n dX6_made_14 (by rfl) (Or.inr ⟨_, rfl⟩) ?_
  refine aw_get fX6_40 dX6_made_15 ((AHu_ne (by omega)).trans ((AHu_ne (by omega)).trans hmo)) (by rfl) ?_
  refine aw_iload_n dX6_made_18 (by rfl) ?_
  refine aw_iload_n dX6_made_19 (by rfl) ?_
  refine aw_iastZ (t) dX6_made_20 ((AHu_ne (by omega)).trans ((AHu_ne (by omega)).trans h3)) (by omega) (by omega) (by omega) ?_
  refine aw_iconstZ dX6_made_21 ?_
  refine aw_istore dX6_made_22 (by decide) ?_
  refine aw_pk [5, 0, 1, 2, 4] (by rfl) ?_
  refine (md_loop d (HH := HH) ht hr hf 5 0 (by omega) ((AHu_ne (by omega)).trans ((AHu_ne (by omega)).trans ((AHu_ne (by omega)).trans hmo))) (by rw [mdH.nil]; exact (AHu_ne (by omega)).trans ((AHu_ne (by omega)).trans ((AHu_ne (by omega)).trans h5))) (fun _ _ => rfl)).mono ?_
  rintro q V' sz' dc ds ⟨rfl, rfl, rfl, hV, rfl, hH⟩
  refine ⟨rfl, rfl, rfl, fun a ha => (hV a (fun z => ha (by unfold ETb; omega))).trans ((AHu_ne (fun z => ha (by unfold ETb; omega))).trans ((AHu_ne (fun z => ha (by unfold ETb; omega))).trans (AHu_ne (fun z => ha (by unfold ETb; omega))))), rfl, (hV _ (by omega)).trans ((AHu_ne (by omega)).trans ((AHu_ne (by omega)).trans (AHu_self _ _ _))), (hV _ (by omega)).trans ((AHu_ne (by omega)).trans (AHu_self _ _ _)), (hV _ (by omega)).trans (AHu_self _ _ _), (hV _ (by omega)).trans ((AHu_ne (by omega)).trans ((AHu_ne (by omega)).trans ((AHu_ne (by omega)).trans h4))), hH⟩
abbrev mX6_table : MI := (yX6_table, cX6_table, 5, (some FieldType.boolean), noX)
theorem dX6_table_0 : decode cX6_table 0 = .ok (.iload_n 1, 1) := by decide +kernel
theorem dX6_table_1 : decode cX6_table 1 = .ok (.ifCond .lt 29, 3) := by decide +kernel
theorem dX6_table_4 : decode cX6_table 4 = .ok (.iload_n 1, 1) := by decide +kernel
theorem dX6_table_5 : decode cX6_table 5 = .ok (.bipush 11, 2) := by decide +kernel
theorem dX6_table_7 : decode cX6_table 7 = .ok (.if_icmp .gt 23, 3) := by decide +kernel
theorem dX6_table_10 : decode cX6_table 10 = .ok (.iload_n 2, 1) := by decide +kernel
theorem dX6_table_11 : decode cX6_table 11 = .ok (.iconst 1, 1) := by decide +kernel
theorem dX6_table_12 : decode cX6_table 12 = .ok (.if_icmp .lt 18, 3) := by decide +kernel
theorem dX6_table_15 : decode cX6_table 15 = .ok (.iload_n 2, 1) := by decide +kernel
theorem dX6_table_16 : decode cX6_table 16 = .ok (.iconst 5, 1) := by decide +kernel
theorem dX6_table_17 : decode cX6_table 17 = .ok (.if_icmp .gt 13, 3) := by decide +kernel
theorem dX6_table_20 : decode cX6_table 20 = .ok (.iload_n 3, 1) := by decide +kernel
theorem dX6_table_21 : decode cX6_table 21 = .ok (.iconst 1, 1) := by decide +kernel
theorem dX6_table_22 : decode cX6_table 22 = .ok (.if_icmp .lt 8, 3) := by decide +kernel
theorem dX6_table_25 : decode cX6_table 25 = .ok (.iload_n 3, 1) := by decide +kernel
theorem dX6_table_26 : decode cX6_table 26 = .ok (.iconst 5, 1) := by decide +kernel
theorem dX6_table_27 : decode cX6_table 27 = .ok (.if_icmp .le 5, 3) := by decide +kernel
theorem dX6_table_30 : decode cX6_table 30 = .ok (.iconst 0, 1) := by decide +kernel
theorem dX6_table_31 : decode cX6_table 31 = .ok (.ireturn, 1) := by decide +kernel
theorem dX6_table_32 : decode cX6_table 32 = .ok (.aload_n 0, 1) := by decide +kernel
theorem dX6_table_33 : decode cX6_table 33 = .ok (.iload_n 1, 1) := by decide +kernel
theorem dX6_table_34 : decode cX6_table 34 = .ok (.iload_n 2, 1) := by decide +kernel
theorem dX6_table_35 : decode cX6_table 35 = .ok (.iload_n 3, 1) := by decide +kernel
theorem dX6_table_36 : decode cX6_table 36 = .ok (.iconst 0, 1) := by decide +kernel
theorem dX6_table_37 : decode cX6_table 37 = .ok (.invokevirtual 134, 3) := by decide +kernel
theorem dX6_table_40 : decode cX6_table 40 = .ok (.iconst 0, 1) := by decide +kernel
theorem dX6_table_41 : decode cX6_table 41 = .ok (.istore 4, 2) := by decide +kernel
theorem dX6_table_43 : decode cX6_table 43 = .ok (.iload 4, 2) := by decide +kernel
theorem dX6_table_45 : decode cX6_table 45 = .ok (.bipush 25, 2) := by decide +kernel
theorem dX6_table_47 : decode cX6_table 47 = .ok (.if_icmp .ge 22, 3) := by decide +kernel
theorem dX6_table_50 : decode cX6_table 50 = .ok (.aload_n 0, 1) := by decide +kernel
theorem dX6_table_51 : decode cX6_table 51 = .ok (.getfield 43, 3) := by decide +kernel
theorem dX6_table_54 : decode cX6_table 54 = .ok (.bipush 25, 2) := by decide +kernel
theorem dX6_table_56 : decode cX6_table 56 = .ok (.iload_n 1, 1) := by decide +kernel
theorem dX6_table_57 : decode cX6_table 57 = .ok (.imul, 1) := by decide +kernel
theorem dX6_table_58 : decode cX6_table 58 = .ok (.iload 4, 2) := by decide +kernel
theorem dX6_table_60 : decode cX6_table 60 = .ok (.iadd, 1) := by decide +kernel
theorem dX6_table_61 : decode cX6_table 61 = .ok (.iconst 0, 1) := by decide +kernel
theorem dX6_table_62 : decode cX6_table 62 = .ok (.iastore, 1) := by decide +kernel
theorem dX6_table_63 : decode cX6_table 63 = .ok (.iinc 4 1, 3) := by decide +kernel
theorem dX6_table_66 : decode cX6_table 66 = .ok (.goto (-23), 3) := by decide +kernel
theorem dX6_table_69 : decode cX6_table 69 = .ok (.iconst 1, 1) := by decide +kernel
theorem dX6_table_70 : decode cX6_table 70 = .ok (.ireturn, 1) := by decide +kernel
def zrN (NN : Nat → Int) (lo n : Nat) : Nat → Int := fun k => if lo ≤ k ∧ k < lo + n then 0 else NN k
theorem zrN.up {NN : Nat → Int} {lo n : Nat} : upF (zrN NN lo n) (lo + n) 0 = zrN NN lo (n + 1) := by
  funext k
  unfold upF zrN
  by_cases e : k = lo + n
  · rw [if_pos e, if_pos (by omega)]
  · rw [if_neg e]
    by_cases e2 : lo ≤ k ∧ k < lo + n
    · rw [if_pos e2, if_pos (by omega)]
    · rw [if_neg e2, if_neg (by omega)]
theorem zrN.nil {NN : Nat → Int} {lo : Nat} : zrN NN lo 0 = NN := by funext k; unfold zrN; rw [if_neg (by omega)]
theorem tb_loop (d : Nat) {g : GX} {V0 : AH} {mo sz t : Nat} {rk kn ar ac : Int} {NN : Nat → Int} (ht : t < 12) : ∀ (y i : Nat), i + y = 25 → ∀ {V : AH}, V mo = some (moO mo rk kn ar ac) → V (mo + 11) = some (aIz g 300 (zrN NN (25 * t) i)) → (∀ a, a ≠ mo + 11 → V a = V0 a) → AW g mX6_table d 43 [(4, .int (iZ i)), (0, .ref mo), (1, .int (iZ t))] [] V sz (VX V0 sz (fun a => a = mo + 11) (fun q V' => some (.int (iZ 1)) = q ∧ V' (mo + 11) = some (aIz g 300 (zrN NN (25 * t) 25))))
  | 0, i, hy, V, hmo, hN, hV => by
    obtain rfl : i = 25 := by omega
    refine aw_iload dX6_table_43 (by rfl) ?_
    refine aw_bipushZ dX6_table_45 (by decide) ?_
    refine aw_icmp_geZ (tgt := 69) dX6_table_47 (by decide) (by omega) (by omega) (fun hc_47 => ?_) (fun hc_47 => ?_)
    · refine aw_iconstZ dX6_table_69 ?_
      refine aw_iret dX6_table_70 rfl (by rfl) ?_
      exact ⟨rfl, rfl, rfl, fun a ha => hV a ha, rfl, hN⟩
    · exact absurd hc_47 (by omega)
  | y + 1, i, hy, V, hmo, hN, hV => by
    have IH := fun i hi => @tb_loop d g V0 mo sz t rk kn ar ac NN ht y i hi
    refine aw_iload dX6_table_43 (by rfl) ?_
    refine aw_bipushZ dX6_table_45 (by decide) ?_
    refine aw_icmp_geZ (tgt := 69) dX6_table_47 (by decide) (by omega) (by omega) (fun hc_47 => ?_) (fun hc_47 => ?_)
    · exact absurd hc_47 (by omega)
    · refine aw_aload_n dX6_table_50 (by rfl) (Or.inr ⟨_, rfl⟩) ?_
      refine aw_get fX6_43 dX6_table_51 hmo (by rfl) ?_
      refine aw_bipushZ dX6_table_54 (by decide) ?_
      refine aw_iload_n dX6_table_56 (by rfl) ?_
      refine aw_imulZ dX6_table_57 ?_
      refine aw_iload dX6_table_58 (by rfl) ?_
      refine aw_iaddZ dX6_table_60 ?_
      refine aw_iconstZ dX6_table_61 ?_
      refine aw_iastZ (25 * t + i) dX6_table_62 hN (by omega) (by omega) (by omega) ?_
      rw [zrN.up]
      refine aw_iincZ dX6_table_63 (by rfl) (by decide) ?_
      refine aw_goto (tgt := 43) dX6_table_66 (by decide) ?_
      rw [show ((i : Int) + 1) = ((i + 1 : Nat) : Int) by omega]
      exact IH (i + 1) (by omega) ((AHu_ne (by omega)).trans hmo) (AHu_self _ _ _) (fun a ha => (AHu_ne ha).trans (hV a ha))
theorem m_table (g : GX) (d : Nat) {V : AH} {mo sz : Nat} {zs : Nat → Int} {S : TSt} {A : ASt} {t r c : Int} (hR : RX g mo V zs S A) (ht : R32 t) (hr : R32 r) (hc : R32 c) : AMet g mX6_table (d + 1) [.ref mo, .int (iZ t), .int (iZ r), .int (iZ c)] V sz (RE g mo V sz (fun q S' A' => A' = A ∧ ((0 ≤ t ∧ t < 12 ∧ 1 ≤ r ∧ r ≤ 5 ∧ 1 ≤ c ∧ c ≤ 5) ∧ some (.int (iZ 1)) = q ∧ S' = upT S t.toNat r.toNat c.toNat (z25 (S.N t.toNat)) (z5 (S.H t.toNat)) ∨ ¬ (0 ≤ t ∧ t < 12 ∧ 1 ≤ r ∧ r ≤ 5 ∧ 1 ≤ c ∧ c ≤ 5) ∧ some (.int (iZ 0)) = q ∧ S' = S))) := by
  obtain ⟨⟨rk, kn, hmo⟩, -, -, -, -, ⟨F5, a5⟩, ⟨TH, RR, CC, NN, HH, t1, t2, t3, t4, t5, t6⟩, -, -, o1, -⟩ := id hR
  refine AMet.of rfl rfl (Nat.le_of_ble_eq_true rfl) ?_
  show AW g mX6_table (d + 1) 0 [(0, .ref mo), (1, .int (iZ t)), (2, .int (iZ r)), (3, .int (iZ c))] [] V sz _
  refine aw_iload_n dX6_table_0 (by rfl) ?_
  refine aw_if_ltZ (tgt := 30) dX6_table_1 (by decide) ht (fun hc_1 => ?_) (fun hc_1 => ?_)
  · refine aw_iconstZ dX6_table_30 ?_
    refine aw_iret dX6_table_31 rfl (by rfl) ?_
    exact ⟨rfl, rfl, rfl, fun _ _ => rfl, zs, S, A, hR, rfl, Or.inr ⟨by omega, rfl, rfl⟩⟩
  · refine aw_iload_n dX6_table_4 (by rfl) ?_
    refine aw_bipushZ dX6_table_5 (by decide) ?_
    refine aw_icmp_gtZ (tgt := 30) dX6_table_7 (by decide) ht (by omega) (fun hc_7 => ?_) (fun hc_7 => ?_)
    · refine aw_iconstZ dX6_table_30 ?_
      refine aw_iret dX6_table_31 rfl (by rfl) ?_
      exact ⟨rfl, rfl, rfl, fun _ _ => rfl, zs, S, A, hR, rfl, Or.inr ⟨by omega, rfl, rfl⟩⟩
    · refine aw_iload_n dX6_table_10 (by rfl) ?_
      refine aw_iconstZ dX6_table_11 ?_
      refine aw_icmp_ltZ (tgt := 30) dX6_table_12 (by decide) hr (by omega) (fun hc_12 => ?_) (fun hc_12 => ?_)
      · refine aw_iconstZ dX6_table_30 ?_
        refine aw_iret dX6_table_31 rfl (by rfl) ?_
        exact ⟨rfl, rfl, rfl, fun _ _ => rfl, zs, S, A, hR, rfl, Or.inr ⟨by omega, rfl, rfl⟩⟩
      · refine aw_iload_n dX6_table_15 (by rfl) ?_
        refine aw_iconstZ dX6_table_16 ?_
        refine aw_icmp_gtZ (tgt := 30) dX6_table_17 (by decide) hr (by omega) (fun hc_17 => ?_) (fun hc_17 => ?_)
        · refine aw_iconstZ dX6_table_30 ?_
          refine aw_iret dX6_table_31 rfl (by rfl) ?_
          exact ⟨rfl, rfl, rfl, fun _ _ => rfl, zs, S, A, hR, rfl, Or.inr ⟨by omega, rfl, rfl⟩⟩
        · refine aw_iload_n dX6_table_20 (by rfl) ?_
          refine aw_iconstZ dX6_table_21 ?_
          refine aw_icmp_ltZ (tgt := 30) dX6_table_22 (by decide) hc (by omega) (fun hc_22 => ?_) (fun hc_22 => ?_)
          · refine aw_iconstZ dX6_table_30 ?_
            refine aw_iret dX6_table_31 rfl (by rfl) ?_
            exact ⟨rfl, rfl, rfl, fun _ _ => rfl, zs, S, A, hR, rfl, Or.inr ⟨by omega, rfl, rfl⟩⟩
          · refine aw_iload_n dX6_table_25 (by rfl) ?_
            refine aw_iconstZ dX6_table_26 ?_
            refine aw_icmp_leZ (tgt := 32) dX6_table_27 (by decide) hc (by omega) (fun hc_27 => ?_) (fun hc_27 => ?_)
            · obtain ⟨n, rfl⟩ : ∃ n : Nat, t = (n : Int) := ⟨t.toNat, by omega⟩
              obtain ⟨rn, rfl⟩ : ∃ n : Nat, r = (n : Int) := ⟨r.toNat, by omega⟩
              obtain ⟨cn, rfl⟩ : ∃ n : Nat, c = (n : Int) := ⟨c.toNat, by omega⟩
              refine aw_aload_n dX6_table_32 (by rfl) (Or.inr ⟨_, rfl⟩) ?_
              refine aw_iload_n dX6_table_33 (by rfl) ?_
              refine aw_iload_n dX6_table_34 (by rfl) ?_
              refine aw_iload_n dX6_table_35 (by rfl) ?_
              refine aw_iconstZ dX6_table_36 ?_
              refine aw_callv vX6_134 dX6_table_37 hmo (m_made g d (t := n) (r := rn) (c := cn) (f := 0) hmo ⟨t1, t2, t3, t4, t5⟩ (by omega) (by omega) (by omega)) (by rfl) (by rfl) (by omega) (Nat.le_of_ble_eq_true rfl) ?_
              rintro _ V1 _ _ _ ⟨rfl, rfl, rfl, hE1, rfl, u1, u2, u3, u4, u5⟩ -
              refine q0 ?_
              refine aw_iconstZ dX6_table_40 ?_
              refine aw_istore dX6_table_41 (by decide) ?_
              refine aw_pk [4, 0, 1] (by rfl) ?_
              refine (tb_loop (d + 1) (V0 := V1) (NN := NN) (by omega) 25 0 (by omega) ((hE1 _ (by unfold ETb; omega)).trans hmo) (by rw [zrN.nil]; exact u4) (fun _ _ => rfl)).mono ?_
              rintro q V' sz' dc ds ⟨rfl, rfl, rfl, hV, rfl, hN⟩
              have hVV : ∀ a, ¬ (ETb mo a ∨ a = mo + 15) → V' a = V a := fun a ha => (hV a (fun z => ha (by unfold ETb; omega))).trans (hE1 a (fun z => ha (Or.inl z)))
              refine ⟨rfl, rfl, rfl, fun a ha => (hV a (fun z => ha (by unfold EM; omega))).trans (hE1 a (fun z => ha (by unfold ETb at z; unfold EM; omega))), zs, _, A, hR.tabs hVV ⟨F5, (hV _ (by omega)).trans ((hE1 _ (by unfold ETb; omega)).trans a5)⟩ ⟨(hV _ (by omega)).trans u1, (hV _ (by omega)).trans u2, (hV _ (by omega)).trans u3, hN, (hV _ (by omega)).trans u5⟩ (RTq.up (S := S) (N := z25 (S.N n)) (H := z5 (S.H n)) t6 (by omega) (fun k hk => ?_) (fun k hk => ?_) (fun i hi => ?_) (fun k hk => ?_)) ?_, rfl, Or.inl ⟨⟨by omega, by omega, by omega, by omega, by omega, by omega⟩, rfl, rfl⟩⟩
              · unfold zrN z25; rw [if_pos (by omega), if_pos hk]
              · unfold zrN; rw [if_neg hk]
              · unfold mdH z5; rw [if_pos (by omega), if_pos hi, if_neg (by omega)]
              · unfold mdH; rw [if_neg hk]
              · have hNz : ∀ k, k < 25 → z25 (S.N n) k = 0 := fun k hk => if_pos hk
                have hHz : ∀ k, k < 5 → z5 (S.H n) k = 0 := fun k hk => if_pos hk
                refine o1.up ⟨by omega, by omega, by omega, fun k hk => by rw [hNz k hk]; omega, fun i => ?_, fun i j hi hj _ => hNz _ (by omega), fun i hi _ => hHz i hi⟩
                unfold z5
                split
                · exact Or.inl rfl
                · exact (o1 n (by omega)).2.2.2.2.1 i
            · refine aw_iconstZ dX6_table_30 ?_
              refine aw_iret dX6_table_31 rfl (by rfl) ?_
              exact ⟨rfl, rfl, rfl, fun _ _ => rfl, zs, S, A, hR, rfl, Or.inr ⟨by omega, rfl, rfl⟩⟩

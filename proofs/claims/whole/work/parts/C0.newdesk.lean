/-! ===== constructors: Desk, Grid ===== -/
/-- a new Whole at s, and the object o has been written -/
theorem wsb_step {g : GX} {V V1 V0 : AH} {o s : Nat} {e e' : va_E} (h1 : ∀ a, a < o → V a = V0 a) (hos : o < s) (hE : ∀ a, a < s + 1 → a ≠ s → V1 a = AHu V s e a) (hD : DL V1 (s + 1 + 1)) (hW : WhN g V1 s) : AHu V1 o e' o = some e' ∧ (∀ a, a < o → AHu V1 o e' a = V0 a) ∧ DL (AHu V1 o e') (s + 2) ∧ WhN g (AHu V1 o e') s ∧ ∀ a, o < a → a < s → AHu V1 o e' a = V a := by
  refine ⟨AHu_self _ _ _, fun a ha => ?_, hD.upd (by omega), hW.kept (AHu_ne (by omega)) (AHu_ne (by omega)), fun a ha hb => ?_⟩
  · rw [AHu_ne (by omega), hE a (by omega) (by omega), AHu_ne (by omega)]; exact h1 a ha
  · rw [AHu_ne (by omega), hE a (by omega) (by omega), AHu_ne (by omega)]
theorem aw_sz {g : GX} {M : MI} {d pc : Nat} {lv : List (Nat × Value)} {st : List Value} {V : AH} {sz sz1 : Nat} {Q : AQ} (h : sz = sz1) (k : AW g M d pc lv st V sz1 Q) : AW g M d pc lv st V sz Q := h ▸ k
abbrev mX0_init : MI := (yX0_init, cX0_init, 1, none, noX)
theorem dX0_init_0 : decode cX0_init 0 = .ok (.aload_n 0, 1) := by decide +kernel
theorem dX0_init_1 : decode cX0_init 1 = .ok (.invokespecial 3, 3) := by decide +kernel
theorem dX0_init_4 : decode cX0_init 4 = .ok (.aload_n 0, 1) := by decide +kernel
theorem dX0_init_5 : decode cX0_init 5 = .ok (.new 9, 3) := by decide +kernel
theorem dX0_init_8 : decode cX0_init 8 = .ok (.dup, 1) := by decide +kernel
theorem dX0_init_9 : decode cX0_init 9 = .ok (.invokespecial 11, 3) := by decide +kernel
theorem dX0_init_12 : decode cX0_init 12 = .ok (.putfield 12, 3) := by decide +kernel
theorem dX0_init_15 : decode cX0_init 15 = .ok (.aload_n 0, 1) := by decide +kernel
theorem dX0_init_16 : decode cX0_init 16 = .ok (.new 9, 3) := by decide +kernel
theorem dX0_init_19 : decode cX0_init 19 = .ok (.dup, 1) := by decide +kernel
theorem dX0_init_20 : decode cX0_init 20 = .ok (.invokespecial 11, 3) := by decide +kernel
theorem dX0_init_23 : decode cX0_init 23 = .ok (.putfield 18, 3) := by decide +kernel
theorem dX0_init_26 : decode cX0_init 26 = .ok (.aload_n 0, 1) := by decide +kernel
theorem dX0_init_27 : decode cX0_init 27 = .ok (.new 9, 3) := by decide +kernel
theorem dX0_init_30 : decode cX0_init 30 = .ok (.dup, 1) := by decide +kernel
theorem dX0_init_31 : decode cX0_init 31 = .ok (.invokespecial 11, 3) := by decide +kernel
theorem dX0_init_34 : decode cX0_init 34 = .ok (.putfield 21, 3) := by decide +kernel
theorem dX0_init_37 : decode cX0_init 37 = .ok (.aload_n 0, 1) := by decide +kernel
theorem dX0_init_38 : decode cX0_init 38 = .ok (.new 9, 3) := by decide +kernel
theorem dX0_init_41 : decode cX0_init 41 = .ok (.dup, 1) := by decide +kernel
theorem dX0_init_42 : decode cX0_init 42 = .ok (.invokespecial 11, 3) := by decide +kernel
theorem dX0_init_45 : decode cX0_init 45 = .ok (.putfield 24, 3) := by decide +kernel
theorem dX0_init_48 : decode cX0_init 48 = .ok (.aload_n 0, 1) := by decide +kernel
theorem dX0_init_49 : decode cX0_init 49 = .ok (.new 9, 3) := by decide +kernel
theorem dX0_init_52 : decode cX0_init 52 = .ok (.dup, 1) := by decide +kernel
theorem dX0_init_53 : decode cX0_init 53 = .ok (.invokespecial 11, 3) := by decide +kernel
theorem dX0_init_56 : decode cX0_init 56 = .ok (.putfield 27, 3) := by decide +kernel
theorem dX0_init_59 : decode cX0_init 59 = .ok (.aload_n 0, 1) := by decide +kernel
theorem dX0_init_60 : decode cX0_init 60 = .ok (.new 9, 3) := by decide +kernel
theorem dX0_init_63 : decode cX0_init 63 = .ok (.dup, 1) := by decide +kernel
theorem dX0_init_64 : decode cX0_init 64 = .ok (.invokespecial 11, 3) := by decide +kernel
theorem dX0_init_67 : decode cX0_init 67 = .ok (.putfield 30, 3) := by decide +kernel
theorem dX0_init_70 : decode cX0_init 70 = .ok (.aload_n 0, 1) := by decide +kernel
theorem dX0_init_71 : decode cX0_init 71 = .ok (.new 9, 3) := by decide +kernel
theorem dX0_init_74 : decode cX0_init 74 = .ok (.dup, 1) := by decide +kernel
theorem dX0_init_75 : decode cX0_init 75 = .ok (.invokespecial 11, 3) := by decide +kernel
theorem dX0_init_78 : decode cX0_init 78 = .ok (.putfield 33, 3) := by decide +kernel
theorem dX0_init_81 : decode cX0_init 81 = .ok (.aload_n 0, 1) := by decide +kernel
theorem dX0_init_82 : decode cX0_init 82 = .ok (.getfield 21, 3) := by decide +kernel
theorem dX0_init_85 : decode cX0_init 85 = .ok (.lconst 1, 1) := by decide +kernel
theorem dX0_init_86 : decode cX0_init 86 = .ok (.invokevirtual 36, 3) := by decide +kernel
theorem dX0_init_89 : decode cX0_init 89 = .ok (.return_, 1) := by decide +kernel
set_option maxRecDepth 20000 in
theorem t_newD (g : GX) (d : Nat) {V : AH} {dk : Nat} (hdk : V dk = some (.inr (0, [.null, .null, .null, .null, .null, .null, .null]))) (hD : DL V (dk + 1)) : AMet g mX0_init (d + 2) [.ref dk] V (dk + 1) (NwQ V (dk + 1) dk 14 49 (fun V' => V' dk = some (dkO (dk + 1) (dk + 3) (dk + 5) (dk + 7) (dk + 9) (dk + 11) (dk + 13)) ∧ (∀ i, i < 7 → i ≠ 2 → WhN g V' (dk + 1 + 2 * i)) ∧ V' (dk + 5) = some (whO 1 1 (dk + 6)) ∧ V' (dk + 6) = some (aIz g 4 (upF (fun _ => 0) 0 1)))) := by
  refine AMet.of rfl rfl (Nat.le_of_ble_eq_true rfl) ?_
  show AW g mX0_init (d + 2) 0 [(0, .ref dk)] [] V (dk + 1) _
  refine aw_aload_n dX0_init_0 (by rfl) (Or.inr ⟨_, rfl⟩) ?_
  refine aw_objinit oX0_3 dX0_init_1 (by omega) (by decide) ?_
  refine aw_aload_n dX0_init_4 (by rfl) (Or.inr ⟨_, rfl⟩) ?_
  refine aw_new nfX0_9 dX0_init_5 ?_
  refine aw_dup dX0_init_8 rfl ?_
  refine aw_calli iX0_11 dX0_init_9 (t_newW g d (V := AHu (V) (dk + 1) (.inr (4, [.int (iZ 0), .int (iZ 0), .null]))) (w := dk + 1) (AHu_self _ _ _) (DL.nw hD)) (by rfl) (by rfl) (by omega) (Nat.le_of_ble_eq_true rfl) ?_
  rintro _ V1_0 _ _ _ ⟨rfl, rfl, rfl, rfl, hE0, hD0, hW0⟩ -
  refine aw_putF fX0_12 rfl rfl dX0_init_12 ((hE0 dk (by omega) (by omega)).trans ((AHu_ne (by omega)).trans hdk)) (by rfl) (by rfl) (Nat.le_of_ble_eq_true rfl) ?_
  refine aw_V (V' := AHu V1_0 dk (.inr (0, [.ref (dk + 1), .null, .null, .null, .null, .null, .null]))) rfl ?_
  obtain ⟨o1, l1, D1, W0, K1⟩ := wsb_step (V0 := V) (e' := .inr (0, [.ref (dk + 1), .null, .null, .null, .null, .null, .null])) (fun _ _ => rfl) (show dk < dk + 1 by omega) hE0 hD0 hW0
  refine aw_sz (sz1 := dk + 3) (by omega) ?_
  refine aw_aload_n dX0_init_15 (by rfl) (Or.inr ⟨_, rfl⟩) ?_
  refine aw_new nfX0_9 dX0_init_16 ?_
  refine aw_dup dX0_init_19 rfl ?_
  refine aw_calli iX0_11 dX0_init_20 (t_newW g d (V := AHu (AHu V1_0 dk (.inr (0, [.ref (dk + 1), .null, .null, .null, .null, .null, .null]))) (dk + 3) (.inr (4, [.int (iZ 0), .int (iZ 0), .null]))) (w := dk + 3) (AHu_self _ _ _) (DL.nw D1)) (by rfl) (by rfl) (by omega) (Nat.le_of_ble_eq_true rfl) ?_
  rintro _ V1_1 _ _ _ ⟨rfl, rfl, rfl, rfl, hE1, hD1, hW1⟩ -
  refine aw_putF fX0_18 rfl rfl dX0_init_23 ((hE1 dk (by omega) (by omega)).trans ((AHu_ne (by omega)).trans o1)) (by rfl) (by rfl) (Nat.le_of_ble_eq_true rfl) ?_
  refine aw_V (V' := AHu V1_1 dk (.inr (0, [.ref (dk + 1), .ref (dk + 3), .null, .null, .null, .null, .null]))) rfl ?_
  obtain ⟨o2, l2, D2, W1, K2⟩ := wsb_step (V0 := V) (e' := .inr (0, [.ref (dk + 1), .ref (dk + 3), .null, .null, .null, .null, .null])) l1 (show dk < dk + 3 by omega) hE1 hD1 hW1
  replace W0 := W0.kept (K2 _ (by omega) (by omega)) (K2 _ (by omega) (by omega))
  refine aw_sz (sz1 := dk + 5) (by omega) ?_
  refine aw_aload_n dX0_init_26 (by rfl) (Or.inr ⟨_, rfl⟩) ?_
  refine aw_new nfX0_9 dX0_init_27 ?_
  refine aw_dup dX0_init_30 rfl ?_
  refine aw_calli iX0_11 dX0_init_31 (t_newW g d (V := AHu (AHu V1_1 dk (.inr (0, [.ref (dk + 1), .ref (dk + 3), .null, .null, .null, .null, .null]))) (dk + 5) (.inr (4, [.int (iZ 0), .int (iZ 0), .null]))) (w := dk + 5) (AHu_self _ _ _) (DL.nw D2)) (by rfl) (by rfl) (by omega) (Nat.le_of_ble_eq_true rfl) ?_
  rintro _ V1_2 _ _ _ ⟨rfl, rfl, rfl, rfl, hE2, hD2, hW2⟩ -
  refine aw_putF fX0_21 rfl rfl dX0_init_34 ((hE2 dk (by omega) (by omega)).trans ((AHu_ne (by omega)).trans o2)) (by rfl) (by rfl) (Nat.le_of_ble_eq_true rfl) ?_
  refine aw_V (V' := AHu V1_2 dk (.inr (0, [.ref (dk + 1), .ref (dk + 3), .ref (dk + 5), .null, .null, .null, .null]))) rfl ?_
  obtain ⟨o3, l3, D3, W2, K3⟩ := wsb_step (V0 := V) (e' := .inr (0, [.ref (dk + 1), .ref (dk + 3), .ref (dk + 5), .null, .null, .null, .null])) l2 (show dk < dk + 5 by omega) hE2 hD2 hW2
  replace W0 := W0.kept (K3 _ (by omega) (by omega)) (K3 _ (by omega) (by omega))
  replace W1 := W1.kept (K3 _ (by omega) (by omega)) (K3 _ (by omega) (by omega))
  refine aw_sz (sz1 := dk + 7) (by omega) ?_
  refine aw_aload_n dX0_init_37 (by rfl) (Or.inr ⟨_, rfl⟩) ?_
  refine aw_new nfX0_9 dX0_init_38 ?_
  refine aw_dup dX0_init_41 rfl ?_
  refine aw_calli iX0_11 dX0_init_42 (t_newW g d (V := AHu (AHu V1_2 dk (.inr (0, [.ref (dk + 1), .ref (dk + 3), .ref (dk + 5), .null, .null, .null, .null]))) (dk + 7) (.inr (4, [.int (iZ 0), .int (iZ 0), .null]))) (w := dk + 7) (AHu_self _ _ _) (DL.nw D3)) (by rfl) (by rfl) (by omega) (Nat.le_of_ble_eq_true rfl) ?_
  rintro _ V1_3 _ _ _ ⟨rfl, rfl, rfl, rfl, hE3, hD3, hW3⟩ -
  refine aw_putF fX0_24 rfl rfl dX0_init_45 ((hE3 dk (by omega) (by omega)).trans ((AHu_ne (by omega)).trans o3)) (by rfl) (by rfl) (Nat.le_of_ble_eq_true rfl) ?_
  refine aw_V (V' := AHu V1_3 dk (.inr (0, [.ref (dk + 1), .ref (dk + 3), .ref (dk + 5), .ref (dk + 7), .null, .null, .null]))) rfl ?_
  obtain ⟨o4, l4, D4, W3, K4⟩ := wsb_step (V0 := V) (e' := .inr (0, [.ref (dk + 1), .ref (dk + 3), .ref (dk + 5), .ref (dk + 7), .null, .null, .null])) l3 (show dk < dk + 7 by omega) hE3 hD3 hW3
  replace W0 := W0.kept (K4 _ (by omega) (by omega)) (K4 _ (by omega) (by omega))
  replace W1 := W1.kept (K4 _ (by omega) (by omega)) (K4 _ (by omega) (by omega))
  replace W2 := W2.kept (K4 _ (by omega) (by omega)) (K4 _ (by omega) (by omega))
  refine aw_sz (sz1 := dk + 9) (by omega) ?_
  refine aw_aload_n dX0_init_48 (by rfl) (Or.inr ⟨_, rfl⟩) ?_
  refine aw_new nfX0_9 dX0_init_49 ?_
  refine aw_dup dX0_init_52 rfl ?_
  refine aw_calli iX0_11 dX0_init_53 (t_newW g d (V := AHu (AHu V1_3 dk (.inr (0, [.ref (dk + 1), .ref (dk + 3), .ref (dk + 5), .ref (dk + 7), .null, .null, .null]))) (dk + 9) (.inr (4, [.int (iZ 0), .int (iZ 0), .null]))) (w := dk + 9) (AHu_self _ _ _) (DL.nw D4)) (by rfl) (by rfl) (by omega) (Nat.le_of_ble_eq_true rfl) ?_
  rintro _ V1_4 _ _ _ ⟨rfl, rfl, rfl, rfl, hE4, hD4, hW4⟩ -
  refine aw_putF fX0_27 rfl rfl dX0_init_56 ((hE4 dk (by omega) (by omega)).trans ((AHu_ne (by omega)).trans o4)) (by rfl) (by rfl) (Nat.le_of_ble_eq_true rfl) ?_
  refine aw_V (V' := AHu V1_4 dk (.inr (0, [.ref (dk + 1), .ref (dk + 3), .ref (dk + 5), .ref (dk + 7), .ref (dk + 9), .null, .null]))) rfl ?_
  obtain ⟨o5, l5, D5, W4, K5⟩ := wsb_step (V0 := V) (e' := .inr (0, [.ref (dk + 1), .ref (dk + 3), .ref (dk + 5), .ref (dk + 7), .ref (dk + 9), .null, .null])) l4 (show dk < dk + 9 by omega) hE4 hD4 hW4
  replace W0 := W0.kept (K5 _ (by omega) (by omega)) (K5 _ (by omega) (by omega))
  replace W1 := W1.kept (K5 _ (by omega) (by omega)) (K5 _ (by omega) (by omega))
  replace W2 := W2.kept (K5 _ (by omega) (by omega)) (K5 _ (by omega) (by omega))
  replace W3 := W3.kept (K5 _ (by omega) (by omega)) (K5 _ (by omega) (by omega))
  refine aw_sz (sz1 := dk + 11) (by omega) ?_
  refine aw_aload_n dX0_init_59 (by rfl) (Or.inr ⟨_, rfl⟩) ?_
  refine aw_new nfX0_9 dX0_init_60 ?_
  refine aw_dup dX0_init_63 rfl ?_
  refine aw_calli iX0_11 dX0_init_64 (t_newW g d (V := AHu (AHu V1_4 dk (.inr (0, [.ref (dk + 1), .ref (dk + 3), .ref (dk + 5), .ref (dk + 7), .ref (dk + 9), .null, .null]))) (dk + 11) (.inr (4, [.int (iZ 0), .int (iZ 0), .null]))) (w := dk + 11) (AHu_self _ _ _) (DL.nw D5)) (by rfl) (by rfl) (by omega) (Nat.le_of_ble_eq_true rfl) ?_
  rintro _ V1_5 _ _ _ ⟨rfl, rfl, rfl, rfl, hE5, hD5, hW5⟩ -
  refine aw_putF fX0_30 rfl rfl dX0_init_67 ((hE5 dk (by omega) (by omega)).trans ((AHu_ne (by omega)).trans o5)) (by rfl) (by rfl) (Nat.le_of_ble_eq_true rfl) ?_
  refine aw_V (V' := AHu V1_5 dk (.inr (0, [.ref (dk + 1), .ref (dk + 3), .ref (dk + 5), .ref (dk + 7), .ref (dk + 9), .ref (dk + 11), .null]))) rfl ?_
  obtain ⟨o6, l6, D6, W5, K6⟩ := wsb_step (V0 := V) (e' := .inr (0, [.ref (dk + 1), .ref (dk + 3), .ref (dk + 5), .ref (dk + 7), .ref (dk + 9), .ref (dk + 11), .null])) l5 (show dk < dk + 11 by omega) hE5 hD5 hW5
  replace W0 := W0.kept (K6 _ (by omega) (by omega)) (K6 _ (by omega) (by omega))
  replace W1 := W1.kept (K6 _ (by omega) (by omega)) (K6 _ (by omega) (by omega))
  replace W2 := W2.kept (K6 _ (by omega) (by omega)) (K6 _ (by omega) (by omega))
  replace W3 := W3.kept (K6 _ (by omega) (by omega)) (K6 _ (by omega) (by omega))
  replace W4 := W4.kept (K6 _ (by omega) (by omega)) (K6 _ (by omega) (by omega))
  refine aw_sz (sz1 := dk + 13) (by omega) ?_
  refine aw_aload_n dX0_init_70 (by rfl) (Or.inr ⟨_, rfl⟩) ?_
  refine aw_new nfX0_9 dX0_init_71 ?_
  refine aw_dup dX0_init_74 rfl ?_
  refine aw_calli iX0_11 dX0_init_75 (t_newW g d (V := AHu (AHu V1_5 dk (.inr (0, [.ref (dk + 1), .ref (dk + 3), .ref (dk + 5), .ref (dk + 7), .ref (dk + 9), .ref (dk + 11), .null]))) (dk + 13) (.inr (4, [.int (iZ 0), .int (iZ 0), .null]))) (w := dk + 13) (AHu_self _ _ _) (DL.nw D6)) (by rfl) (by rfl) (by omega) (Nat.le_of_ble_eq_true rfl) ?_
  rintro _ V1_6 _ _ _ ⟨rfl, rfl, rfl, rfl, hE6, hD6, hW6⟩ -
  refine aw_putF fX0_33 rfl rfl dX0_init_78 ((hE6 dk (by omega) (by omega)).trans ((AHu_ne (by omega)).trans o6)) (by rfl) (by rfl) (Nat.le_of_ble_eq_true rfl) ?_
  refine aw_V (V' := AHu V1_6 dk (.inr (0, [.ref (dk + 1), .ref (dk + 3), .ref (dk + 5), .ref (dk + 7), .ref (dk + 9), .ref (dk + 11), .ref (dk + 13)]))) rfl ?_
  obtain ⟨o7, l7, D7, W6, K7⟩ := wsb_step (V0 := V) (e' := .inr (0, [.ref (dk + 1), .ref (dk + 3), .ref (dk + 5), .ref (dk + 7), .ref (dk + 9), .ref (dk + 11), .ref (dk + 13)])) l6 (show dk < dk + 13 by omega) hE6 hD6 hW6
  replace W0 := W0.kept (K7 _ (by omega) (by omega)) (K7 _ (by omega) (by omega))
  replace W1 := W1.kept (K7 _ (by omega) (by omega)) (K7 _ (by omega) (by omega))
  replace W2 := W2.kept (K7 _ (by omega) (by omega)) (K7 _ (by omega) (by omega))
  replace W3 := W3.kept (K7 _ (by omega) (by omega)) (K7 _ (by omega) (by omega))
  replace W4 := W4.kept (K7 _ (by omega) (by omega)) (K7 _ (by omega) (by omega))
  replace W5 := W5.kept (K7 _ (by omega) (by omega)) (K7 _ (by omega) (by omega))
  refine aw_sz (sz1 := dk + 15) (by omega) ?_
  refine aw_aload_n dX0_init_81 (by rfl) (Or.inr ⟨_, rfl⟩) ?_
  refine aw_get fX0_21 dX0_init_82 o7 (by rfl) ?_
  refine aw_lconstZ (z := 1) dX0_init_85 (by decide) ?_
  refine aw_callv vX0_36 dX0_init_86 W2.1 (t_put1 g d (w := dk + 5) (p := dk + 6) (sz := dk + 15) W2.1 W2.2 (by omega)) (by rfl) (by rfl) (by omega) (Nat.le_of_ble_eq_true rfl) ?_
  rintro _ V9 _ _ _ ⟨rfl, rfl, rfl, rfl, p1, p2, p3⟩ -
  refine aw_ret dX0_init_89 rfl ?_
  refine ⟨rfl, by omega, by omega, by omega, fun a h1 h2 => ?_, fun a ha => ?_, (p3 dk (by omega) (by omega)).trans o7, ?_, p1, p2⟩
  · rw [p3 a (by omega) (by omega)]; exact l7 a (by omega)
  · by_cases q1 : a = dk + 5
    · omega
    · by_cases q2 : a = dk + 6
      · omega
      · rw [p3 a q1 q2] at ha; exact D7 a ha
  · intro i hi h2
    rcases (by omega : i = 0 ∨ i = 1 ∨ i = 3 ∨ i = 4 ∨ i = 5 ∨ i = 6) with rfl | rfl | rfl | rfl | rfl | rfl
    · exact W0.kept (p3 _ (by omega) (by omega)) (p3 _ (by omega) (by omega))
    · exact W1.kept (p3 _ (by omega) (by omega)) (p3 _ (by omega) (by omega))
    · exact W3.kept (p3 _ (by omega) (by omega)) (p3 _ (by omega) (by omega))
    · exact W4.kept (p3 _ (by omega) (by omega)) (p3 _ (by omega) (by omega))
    · exact W5.kept (p3 _ (by omega) (by omega)) (p3 _ (by omega) (by omega))
    · exact W6.kept (p3 _ (by omega) (by omega)) (p3 _ (by omega) (by omega))

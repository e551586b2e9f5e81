/-! ===== constructors: Grid, three sizes ===== -/
theorem bn_step {V V1 V0 : AH} {b s s' : Nat} {e e' : va_E} (hbs : b < s) (h1 : ∀ a, a < b → V a = V0 a) (hE : ∀ a, a < s + 1 → a ≠ s → V1 a = AHu V s e a) (hD : DL V1 s') (hs : s < s') : AHu V1 b e' b = some e' ∧ (∀ a, a < b → AHu V1 b e' a = V0 a) ∧ DL (AHu V1 b e') s' ∧ (∀ a, b < a → a < s → AHu V1 b e' a = V a) ∧ ∀ a, s ≤ a → AHu V1 b e' a = V1 a := by
  refine ⟨AHu_self _ _ _, fun a ha => ?_, hD.upd (by omega), fun a ha hb => ?_, fun a ha => AHu_ne (by omega)⟩
  · rw [AHu_ne (by omega), hE a (by omega) (by omega), AHu_ne (by omega)]; exact h1 a ha
  · rw [AHu_ne (by omega), hE a (by omega) (by omega), AHu_ne (by omega)]
/-- a new Desk, its numbers behind it -/
def DkN (g : GX) (V : AH) (dk : Nat) : Prop := V dk = some (dkO (dk + 1) (dk + 3) (dk + 5) (dk + 7) (dk + 9) (dk + 11) (dk + 13)) ∧ (∀ i, i < 7 → i ≠ 2 → WhN g V (dk + 1 + 2 * i)) ∧ V (dk + 5) = some (whO 1 1 (dk + 6)) ∧ V (dk + 6) = some (aIz g 4 (upF (fun _ => 0) 0 1))
theorem DkN.kept {g : GX} {V V' : AH} {dk : Nat} (h : DkN g V dk) (hV : ∀ a, dk ≤ a → a < dk + 15 → V' a = V a) : DkN g V' dk :=
  ⟨(hV _ (by omega) (by omega)).trans h.1, fun i hi h2 => (h.2.1 i hi h2).kept (hV _ (by omega) (by omega)) (hV _ (by omega) (by omega)), (hV _ (by omega) (by omega)).trans h.2.2.1, (hV _ (by omega) (by omega)).trans h.2.2.2⟩
abbrev mX1_init : MI := (yX1_init, cX1_init, 4, none, noX)
theorem dX1_init_0 : decode cX1_init 0 = .ok (.aload_n 0, 1) := by decide +kernel
theorem dX1_init_1 : decode cX1_init 1 = .ok (.invokespecial 3, 3) := by decide +kernel
theorem dX1_init_4 : decode cX1_init 4 = .ok (.aload_n 0, 1) := by decide +kernel
theorem dX1_init_5 : decode cX1_init 5 = .ok (.new 9, 3) := by decide +kernel
theorem dX1_init_8 : decode cX1_init 8 = .ok (.dup, 1) := by decide +kernel
theorem dX1_init_9 : decode cX1_init 9 = .ok (.invokespecial 11, 3) := by decide +kernel
theorem dX1_init_12 : decode cX1_init 12 = .ok (.putfield 12, 3) := by decide +kernel
theorem dX1_init_15 : decode cX1_init 15 = .ok (.aload_n 0, 1) := by decide +kernel
theorem dX1_init_16 : decode cX1_init 16 = .ok (.new 18, 3) := by decide +kernel
theorem dX1_init_19 : decode cX1_init 19 = .ok (.dup, 1) := by decide +kernel
theorem dX1_init_20 : decode cX1_init 20 = .ok (.invokespecial 20, 3) := by decide +kernel
theorem dX1_init_23 : decode cX1_init 23 = .ok (.putfield 21, 3) := by decide +kernel
theorem dX1_init_26 : decode cX1_init 26 = .ok (.aload_n 0, 1) := by decide +kernel
theorem dX1_init_27 : decode cX1_init 27 = .ok (.new 18, 3) := by decide +kernel
theorem dX1_init_30 : decode cX1_init 30 = .ok (.dup, 1) := by decide +kernel
theorem dX1_init_31 : decode cX1_init 31 = .ok (.invokespecial 20, 3) := by decide +kernel
theorem dX1_init_34 : decode cX1_init 34 = .ok (.putfield 25, 3) := by decide +kernel
theorem dX1_init_37 : decode cX1_init 37 = .ok (.aload_n 0, 1) := by decide +kernel
theorem dX1_init_38 : decode cX1_init 38 = .ok (.iconst 0, 1) := by decide +kernel
theorem dX1_init_39 : decode cX1_init 39 = .ok (.putfield 28, 3) := by decide +kernel
theorem dX1_init_42 : decode cX1_init 42 = .ok (.aload_n 0, 1) := by decide +kernel
theorem dX1_init_43 : decode cX1_init 43 = .ok (.iconst 0, 1) := by decide +kernel
theorem dX1_init_44 : decode cX1_init 44 = .ok (.putfield 32, 3) := by decide +kernel
theorem dX1_init_47 : decode cX1_init 47 = .ok (.aload_n 0, 1) := by decide +kernel
theorem dX1_init_48 : decode cX1_init 48 = .ok (.iload_n 1, 1) := by decide +kernel
theorem dX1_init_49 : decode cX1_init 49 = .ok (.newarray .int, 2) := by decide +kernel
theorem dX1_init_51 : decode cX1_init 51 = .ok (.putfield 35, 3) := by decide +kernel
theorem dX1_init_54 : decode cX1_init 54 = .ok (.aload_n 0, 1) := by decide +kernel
theorem dX1_init_55 : decode cX1_init 55 = .ok (.iload_n 1, 1) := by decide +kernel
theorem dX1_init_56 : decode cX1_init 56 = .ok (.anewarray 39, 3) := by decide +kernel
theorem dX1_init_59 : decode cX1_init 59 = .ok (.putfield 41, 3) := by decide +kernel
theorem dX1_init_62 : decode cX1_init 62 = .ok (.iconst 0, 1) := by decide +kernel
theorem dX1_init_63 : decode cX1_init 63 = .ok (.istore_n 3, 1) := by decide +kernel
theorem dX1_init_64 : decode cX1_init 64 = .ok (.iload_n 3, 1) := by decide +kernel
theorem dX1_init_65 : decode cX1_init 65 = .ok (.iload_n 1, 1) := by decide +kernel
theorem dX1_init_66 : decode cX1_init 66 = .ok (.if_icmp .ge 23, 3) := by decide +kernel
theorem dX1_init_69 : decode cX1_init 69 = .ok (.aload_n 0, 1) := by decide +kernel
theorem dX1_init_70 : decode cX1_init 70 = .ok (.getfield 41, 3) := by decide +kernel
theorem dX1_init_73 : decode cX1_init 73 = .ok (.iload_n 3, 1) := by decide +kernel
theorem dX1_init_74 : decode cX1_init 74 = .ok (.new 39, 3) := by decide +kernel
theorem dX1_init_77 : decode cX1_init 77 = .ok (.dup, 1) := by decide +kernel
theorem dX1_init_78 : decode cX1_init 78 = .ok (.iload_n 2, 1) := by decide +kernel
theorem dX1_init_79 : decode cX1_init 79 = .ok (.invokespecial 45, 3) := by decide +kernel
theorem dX1_init_82 : decode cX1_init 82 = .ok (.aastore, 1) := by decide +kernel
theorem dX1_init_83 : decode cX1_init 83 = .ok (.iinc 3 1, 3) := by decide +kernel
theorem dX1_init_86 : decode cX1_init 86 = .ok (.goto (-22), 3) := by decide +kernel
theorem dX1_init_89 : decode cX1_init 89 = .ok (.return_, 1) := by decide +kernel
set_option maxRecDepth 20000 in
theorem grA_loop (g : GX) (d : Nat) {V0 : AH} {t0 : Nat} : ∀ (y i : Nat), i + y = 10 → ∀ {V : AH} {sz : Nat}, sz = t0 + 22 + 12 * i → V t0 = some (grO (t0 + 21) (t0 + 20) (t0 + 1) (t0 + 16) (t0 + 18) 0 0) → V (t0 + 20) = some (aIz g 10 (fun _ => 0)) → V (t0 + 21) = some (aQ g 4 10 (fun e => if e < i then some (t0 + 22 + 12 * e) else none)) → WhN g V (t0 + 16) → WhN g V (t0 + 18) → (∀ e, e < i → RowV g V (t0 + 22 + 12 * e) (t0 + 22 + 12 * e + 1) 5 (fun j => t0 + 22 + 12 * e + 2 + 2 * j) ∧ ∀ j, j < 5 → WhN g V (t0 + 22 + 12 * e + 2 + 2 * j)) → (∀ a, a < t0 + 20 → a ≠ t0 → V a = V0 a) → DL V sz → AW g mX1_init (d + 3) 64 [(3, .int (iZ (i : Int))), (0, .ref t0), (1, .int (iZ 10)), (2, .int (iZ 5))] [] V sz (fun r V' sz' mc ms => none = r ∧ t0 + 22 + 120 = sz' ∧ 12 * y = mc ∧ 41 * y = ms ∧ V' t0 = some (grO (t0 + 21) (t0 + 20) (t0 + 1) (t0 + 16) (t0 + 18) 0 0) ∧ V' (t0 + 20) = some (aIz g 10 (fun _ => 0)) ∧ V' (t0 + 21) = some (aQ g 4 10 (fun e => some (t0 + 22 + 12 * e))) ∧ WhN g V' (t0 + 16) ∧ WhN g V' (t0 + 18) ∧ (∀ e, e < 10 → RowV g V' (t0 + 22 + 12 * e) (t0 + 22 + 12 * e + 1) 5 (fun j => t0 + 22 + 12 * e + 2 + 2 * j) ∧ ∀ j, j < 5 → WhN g V' (t0 + 22 + 12 * e + 2 + 2 * j)) ∧ (∀ a, a < t0 + 20 → a ≠ t0 → V' a = V0 a) ∧ DL V' sz')
  | 0, i, hy, V, sz, hsz, h1, h5, h6, w1, w3, hR, hV, hD => by
    obtain rfl : i = 10 := by omega
    subst hsz
    refine aw_iload_n dX1_init_64 (by rfl) ?_
    refine aw_iload_n dX1_init_65 (by rfl) ?_
    refine aw_icmp_geZ (tgt := 89) dX1_init_66 (by decide) (by omega) (by omega) (fun hc_66 => ?_) (fun hc_66 => ?_)
    · refine aw_arrQ (f' := fun e => some (t0 + 22 + 12 * e)) h6 (fun e he => by rw [if_pos (by omega)]) ?_
      refine aw_ret dX1_init_89 rfl ?_
      exact ⟨rfl, by omega, rfl, rfl, (AHu_ne (by omega)).trans h1, (AHu_ne (by omega)).trans h5, AHu_self _ _ _, w1.kept (AHu_ne (by omega)) (AHu_ne (by omega)), w3.kept (AHu_ne (by omega)) (AHu_ne (by omega)), fun e he => ⟨(hR e (by omega)).1.kept (AHu_ne (by omega)) (AHu_ne (by omega)), fun j hj => ((hR e (by omega)).2 j hj).kept (AHu_ne (by omega)) (AHu_ne (by omega))⟩, fun a ha hb => (AHu_ne (by omega)).trans (hV a ha hb), hD.upd (by omega)⟩
    · exact absurd hc_66 (by omega)
  | y + 1, i, hy, V, sz, hsz, h1, h5, h6, w1, w3, hR, hV, hD => by
    have IH := fun i hi => @grA_loop g d V0 t0 y i hi
    subst hsz
    refine aw_iload_n dX1_init_64 (by rfl) ?_
    refine aw_iload_n dX1_init_65 (by rfl) ?_
    refine aw_icmp_geZ (tgt := 89) dX1_init_66 (by decide) (by omega) (by omega) (fun hc_66 => ?_) (fun hc_66 => ?_)
    · exact absurd hc_66 (by omega)
    · refine aw_aload_n dX1_init_69 (by rfl) (Or.inr ⟨_, rfl⟩) ?_
      refine aw_get fX1_41 dX1_init_70 h1 (by rfl) ?_
      refine aw_iload_n dX1_init_73 (by rfl) ?_
      refine aw_new nfX1_39 dX1_init_74 ?_
      refine aw_dup dX1_init_77 rfl ?_
      refine aw_iload_n dX1_init_78 (by rfl) ?_
      refine aw_calli iX1_45 dX1_init_79 (t_newR g d (V := AHu V (t0 + 22 + 12 * i) (.inr (2, [.null]))) (ro := t0 + 22 + 12 * i) (n := 5) (by omega) (AHu_self _ _ _) hD.nw) (by rfl) (by rfl) (by omega) (Nat.le_of_ble_eq_true rfl) ?_
      rintro _ V1 _ _ _ ⟨rfl, rfl, rfl, rfl, hE1, hD1, hR1, hW1⟩ -
      refine aw_aast (t0 := 4) (ci := 2) rfl rfl dX1_init_82 ((hE1 _ (by omega) (by omega)).trans ((AHu_ne (by omega)).trans h6)) hR1.1 (ixZ rfl (by omega) (by omega)) ?_
      refine aw_iincZ dX1_init_83 (by rfl) (by decide) ?_
      refine aw_goto (tgt := 64) dX1_init_86 (by decide) ?_
      rw [show ((i : Int) + 1) = ((i + 1 : Nat) : Int) by omega]
      refine aw_pk [3, 0, 1, 2] (by rfl) ?_
      refine AW.mono (fun r V' sz' dc ds h => ?_) (IH (i + 1) (by omega) (V := AHu V1 (t0 + 21) _) (sz := t0 + 22 + 12 * i + 1 + (1 + 2 * 5)) (by omega) ?_ ?_ ?_ ?_ ?_ (fun e he => ?_) (fun a ha hb => ?_) (hD1.upd (by omega)))
      · obtain ⟨x1, x2, x3, x4, x5⟩ := h
        exact ⟨x1, x2, by omega, by omega, x5⟩
      · rw [AHu_ne (by omega), hE1 _ (by omega) (by omega), AHu_ne (by omega)]; exact h1
      · rw [AHu_ne (by omega), hE1 _ (by omega) (by omega), AHu_ne (by omega)]; exact h5
      · rw [AHu_self]
        congr 3
        funext e
        unfold va_up
        by_cases q : e = i
        · rw [if_pos q, q, if_pos (by omega)]
        · rw [if_neg q]
          show (if e < i then some (t0 + 22 + 12 * e) else none) = (if e < i + 1 then some (t0 + 22 + 12 * e) else none)
          by_cases q2 : e < i
          · rw [if_pos q2, if_pos (by omega)]
          · rw [if_neg q2, if_neg (by omega)]
      · exact w1.kept (by rw [AHu_ne (by omega), hE1 _ (by omega) (by omega), AHu_ne (by omega)]) (by rw [AHu_ne (by omega), hE1 _ (by omega) (by omega), AHu_ne (by omega)])
      · exact w3.kept (by rw [AHu_ne (by omega), hE1 _ (by omega) (by omega), AHu_ne (by omega)]) (by rw [AHu_ne (by omega), hE1 _ (by omega) (by omega), AHu_ne (by omega)])
      · by_cases q : e = i
        · subst q
          exact ⟨hR1.kept (AHu_ne (by omega)) (AHu_ne (by omega)), fun j hj => (hW1 j hj).kept (AHu_ne (by omega)) (AHu_ne (by omega))⟩
        · exact ⟨(hR e (by omega)).1.kept (by rw [AHu_ne (by omega), hE1 _ (by omega) (by omega), AHu_ne (by omega)]) (by rw [AHu_ne (by omega), hE1 _ (by omega) (by omega), AHu_ne (by omega)]), fun j hj => ((hR e (by omega)).2 j hj).kept (by rw [AHu_ne (by omega), hE1 _ (by omega) (by omega), AHu_ne (by omega)]) (by rw [AHu_ne (by omega), hE1 _ (by omega) (by omega), AHu_ne (by omega)])⟩
      · rw [AHu_ne (by omega), hE1 a (by omega) (by omega), AHu_ne (by omega)]; exact hV a ha hb
set_option maxRecDepth 20000 in
theorem t_newGA (g : GX) (d : Nat) {V : AH} {t0 : Nat} (ht0 : V t0 = some (.inr (1, [.null, .null, .null, .null, .null, .int (iZ 0), .int (iZ 0)]))) (hD : DL V (t0 + 1)) : AMet g mX1_init (d + 3) [.ref t0, .int (iZ 10), .int (iZ 5)] V (t0 + 1) (NwQ V (t0 + 1) t0 141 500 (fun V' => GD g V' (t0 + 1) (GL t0 10 5) 0 0 (fun _ => 0) (fun i => t0 + 22 + 12 * i) ∧ DkN g V' (t0 + 1) ∧ WhN g V' (t0 + 16) ∧ WhN g V' (t0 + 18) ∧ ∀ r, r < 10 → ∀ j, j < 5 → WhN g V' (t0 + 22 + 12 * r + 2 + 2 * j))) := by
  refine AMet.of rfl rfl (Nat.le_of_ble_eq_true rfl) ?_
  show AW g mX1_init (d + 3) 0 [(0, .ref t0), (1, .int (iZ 10)), (2, .int (iZ 5))] [] V (t0 + 1) _
  refine aw_aload_n dX1_init_0 (by rfl) (Or.inr ⟨_, rfl⟩) ?_
  refine aw_objinit oX1_3 dX1_init_1 (by omega) (by decide) ?_
  refine aw_aload_n dX1_init_4 (by rfl) (Or.inr ⟨_, rfl⟩) ?_
  refine aw_new nfX1_9 dX1_init_5 ?_
  refine aw_dup dX1_init_8 rfl ?_
  refine aw_calli iX1_11 dX1_init_9 (t_newD g d (V := AHu V (t0 + 1) (.inr (0, [.null, .null, .null, .null, .null, .null, .null]))) (dk := t0 + 1) (AHu_self _ _ _) (DL.nw hD)) (by rfl) (by rfl) (by omega) (Nat.le_of_ble_eq_true rfl) ?_
  rintro _ V1_d _ _ _ ⟨rfl, rfl, rfl, rfl, hEd, hDd, hKd⟩ -
  refine aw_putF fX1_12 rfl rfl dX1_init_12 ((hEd t0 (by omega) (by omega)).trans ((AHu_ne (by omega)).trans ht0)) (by rfl) (by rfl) (Nat.le_of_ble_eq_true rfl) ?_
  refine aw_V (V' := AHu V1_d t0 (.inr (1, [.null, .null, .ref (t0 + 1), .null, .null, .int (iZ 0), .int (iZ 0)]))) rfl ?_
  obtain ⟨o0, l0, D0, K0, J0⟩ := bn_step (V0 := V) (s' := t0 + 16) (e' := .inr (1, [.null, .null, .ref (t0 + 1), .null, .null, .int (iZ 0), .int (iZ 0)])) (show t0 < t0 + 1 by omega) (fun _ _ => rfl) hEd hDd (by omega)
  have G0 : DkN g (AHu V1_d t0 (.inr (1, [.null, .null, .ref (t0 + 1), .null, .null, .int (iZ 0), .int (iZ 0)]))) (t0 + 1) := DkN.kept (V := V1_d) hKd (fun a h1 h2 => J0 a h1)
  refine aw_sz (sz1 := t0 + 16) (by omega) ?_
  generalize AHu V1_d t0 (.inr (1, [.null, .null, .ref (t0 + 1), .null, .null, .int (iZ 0), .int (iZ 0)])) = V0d at *
  refine aw_aload_n dX1_init_15 (by rfl) (Or.inr ⟨_, rfl⟩) ?_
  refine aw_new nfX1_18 dX1_init_16 ?_
  refine aw_dup dX1_init_19 rfl ?_
  refine aw_calli iX1_20 dX1_init_20 (t_newW g (d + 1) (V := AHu V0d (t0 + 16) (.inr (4, [.int (iZ 0), .int (iZ 0), .null]))) (w := t0 + 16) (AHu_self _ _ _) (DL.nw D0)) (by rfl) (by rfl) (by omega) (Nat.le_of_ble_eq_true rfl) ?_
  rintro _ V1_0 _ _ _ ⟨rfl, rfl, rfl, rfl, hE0, hD0, hW0⟩ -
  refine aw_putF fX1_21 rfl rfl dX1_init_23 ((hE0 t0 (by omega) (by omega)).trans ((AHu_ne (by omega)).trans o0)) (by rfl) (by rfl) (Nat.le_of_ble_eq_true rfl) ?_
  refine aw_V (V' := AHu V1_0 t0 (.inr (1, [.null, .null, .ref (t0 + 1), .ref (t0 + 16), .null, .int (iZ 0), .int (iZ 0)]))) rfl ?_
  obtain ⟨o1, l1, D1, W0, K1⟩ := wsb_step (V0 := V) (e' := .inr (1, [.null, .null, .ref (t0 + 1), .ref (t0 + 16), .null, .int (iZ 0), .int (iZ 0)])) l0 (show t0 < t0 + 16 by omega) hE0 hD0 hW0
  replace G0 := DkN.kept G0 (fun a h1 h2 => K1 a (by omega) (by omega))
  refine aw_sz (sz1 := t0 + 18) (by omega) ?_
  refine aw_aload_n dX1_init_26 (by rfl) (Or.inr ⟨_, rfl⟩) ?_
  refine aw_new nfX1_18 dX1_init_27 ?_
  refine aw_dup dX1_init_30 rfl ?_
  refine aw_calli iX1_20 dX1_init_31 (t_newW g (d + 1) (V := AHu (AHu V1_0 t0 (.inr (1, [.null, .null, .ref (t0 + 1), .ref (t0 + 16), .null, .int (iZ 0), .int (iZ 0)]))) (t0 + 18) (.inr (4, [.int (iZ 0), .int (iZ 0), .null]))) (w := t0 + 18) (AHu_self _ _ _) (DL.nw D1)) (by rfl) (by rfl) (by omega) (Nat.le_of_ble_eq_true rfl) ?_
  rintro _ V1_1 _ _ _ ⟨rfl, rfl, rfl, rfl, hE1, hD1, hW1⟩ -
  refine aw_putF fX1_25 rfl rfl dX1_init_34 ((hE1 t0 (by omega) (by omega)).trans ((AHu_ne (by omega)).trans o1)) (by rfl) (by rfl) (Nat.le_of_ble_eq_true rfl) ?_
  refine aw_V (V' := AHu V1_1 t0 (.inr (1, [.null, .null, .ref (t0 + 1), .ref (t0 + 16), .ref (t0 + 18), .int (iZ 0), .int (iZ 0)]))) rfl ?_
  obtain ⟨o2, l2, D2, W1, K2⟩ := wsb_step (V0 := V) (e' := .inr (1, [.null, .null, .ref (t0 + 1), .ref (t0 + 16), .ref (t0 + 18), .int (iZ 0), .int (iZ 0)])) l1 (show t0 < t0 + 18 by omega) hE1 hD1 hW1
  replace G0 := DkN.kept G0 (fun a h1 h2 => K2 a (by omega) (by omega))
  replace W0 := W0.kept (K2 _ (by omega) (by omega)) (K2 _ (by omega) (by omega))
  refine aw_sz (sz1 := t0 + 20) (by omega) ?_
  generalize AHu V1_1 t0 (.inr (1, [.null, .null, .ref (t0 + 1), .ref (t0 + 16), .ref (t0 + 18), .int (iZ 0), .int (iZ 0)])) = V2 at *
  refine aw_aload_n dX1_init_37 (by rfl) (Or.inr ⟨_, rfl⟩) ?_
  refine aw_iconstZ dX1_init_38 ?_
  refine aw_put fX1_28 dX1_init_39 o2 (by rfl) (by rfl) (Nat.le_of_ble_eq_true rfl) ?_
  refine aw_V (V' := V2) (by funext a; by_cases q : a = t0; (rw [q, AHu_self, o2]; rfl); (rw [AHu_ne q])) ?_
  refine aw_aload_n dX1_init_42 (by rfl) (Or.inr ⟨_, rfl⟩) ?_
  refine aw_iconstZ dX1_init_43 ?_
  refine aw_put fX1_32 dX1_init_44 o2 (by rfl) (by rfl) (Nat.le_of_ble_eq_true rfl) ?_
  refine aw_V (V' := V2) (by funext a; by_cases q : a = t0; (rw [q, AHu_self, o2]; rfl); (rw [AHu_ne q])) ?_
  refine aw_aload_n dX1_init_47 (by rfl) (Or.inr ⟨_, rfl⟩) ?_
  refine aw_iload_n dX1_init_48 (by rfl) ?_
  refine aw_newI (N := 10) dX1_init_49 (by decide) (by decide) (by omega) ?_
  refine aw_putF fX1_35 rfl rfl dX1_init_51 ((AHu_ne (by omega)).trans o2) (by rfl) (by rfl) (Nat.le_of_ble_eq_true rfl) ?_
  refine aw_aload_n dX1_init_54 (by rfl) (Or.inr ⟨_, rfl⟩) ?_
  refine aw_iload_n dX1_init_55 (by rfl) ?_
  refine aw_newQ (t0 := 4) (N := 10) kX1_39 (fun U h => h.2.2.1) rfl dX1_init_56 (by decide) (by decide) (by omega) ?_
  refine aw_putF fX1_41 rfl rfl dX1_init_59 ((AHu_ne (by omega)).trans (AHu_self _ _ _)) (by rfl) (by rfl) (Nat.le_of_ble_eq_true rfl) ?_
  refine aw_iconstZ dX1_init_62 ?_
  refine aw_istore_n dX1_init_63 (by decide) ?_
  refine aw_sz (sz1 := t0 + 22) (by omega) ?_
  refine aw_pk [3, 0, 1, 2] (by rfl) ?_
  refine AW.mono (fun r V' sz' dc ds h => ?_) (grA_loop g d (V0 := V2) (t0 := t0) 10 0 (by omega) (V := AHu (AHu (AHu (AHu V2 (t0 + 20) (aI g 10 (fun _ => 0))) t0 (.inr (1, [.null, .ref (t0 + 20), .ref (t0 + 1), .ref (t0 + 16), .ref (t0 + 18), .int (iZ 0), .int (iZ 0)]))) (t0 + 21) (aQ g 4 10 (fun _ => none))) t0 (.inr (1, [.ref (t0 + 21), .ref (t0 + 20), .ref (t0 + 1), .ref (t0 + 16), .ref (t0 + 18), .int (iZ 0), .int (iZ 0)]))) (sz := t0 + 22) (by omega) (AHu_self _ _ _) ?_ ?_ ?_ ?_ (fun e he => absurd he (by omega)) (fun a ha hb => ?_) ?_)
  · obtain ⟨x1, x2, x3, x4, x5, x6, x7, x8, x9, x10, x11, x12⟩ := h
    refine ⟨x1, by omega, by omega, by omega, fun a q1 q2 => (x11 a (by omega) q2).trans (l2 a (by omega)), x12, ⟨x5, x7, x6, ?_, fun i hi => ⟨i, hi, rfl⟩, fun i j hi hj hne e => ?_⟩, DkN.kept G0 (fun a h1 h2 => x11 a (by omega) (by omega)), x8, x9, fun r hr => (x10 r hr).2⟩
    · rintro ro ⟨r, hr, rfl⟩
      exact (x10 r hr).1
    · have e : t0 + 22 + 12 * i = t0 + 22 + 12 * j := e
      omega
  · rw [AHu_ne (by omega), AHu_ne (by omega), AHu_ne (by omega), AHu_self]; rfl
  · rw [AHu_ne (by omega), AHu_self]
    congr 3
  · exact W0.kept (by rw [AHu_ne (by omega), AHu_ne (by omega), AHu_ne (by omega), AHu_ne (by omega)]) (by rw [AHu_ne (by omega), AHu_ne (by omega), AHu_ne (by omega), AHu_ne (by omega)])
  · exact W1.kept (by rw [AHu_ne (by omega), AHu_ne (by omega), AHu_ne (by omega), AHu_ne (by omega)]) (by rw [AHu_ne (by omega), AHu_ne (by omega), AHu_ne (by omega), AHu_ne (by omega)])
  · rw [AHu_ne (by omega), AHu_ne (by omega), AHu_ne (by omega), AHu_ne (by omega)]
  · exact (DL.nw ((DL.nw D2).upd (by omega))).upd (by omega)
set_option maxRecDepth 20000 in
theorem grB_loop (g : GX) (d : Nat) {V0 : AH} {t0 : Nat} : ∀ (y i : Nat), i + y = 11 → ∀ {V : AH} {sz : Nat}, sz = t0 + 22 + 22 * i → V t0 = some (grO (t0 + 21) (t0 + 20) (t0 + 1) (t0 + 16) (t0 + 18) 0 0) → V (t0 + 20) = some (aIz g 11 (fun _ => 0)) → V (t0 + 21) = some (aQ g 4 11 (fun e => if e < i then some (t0 + 22 + 22 * e) else none)) → WhN g V (t0 + 16) → WhN g V (t0 + 18) → (∀ e, e < i → RowV g V (t0 + 22 + 22 * e) (t0 + 22 + 22 * e + 1) 10 (fun j => t0 + 22 + 22 * e + 2 + 2 * j) ∧ ∀ j, j < 10 → WhN g V (t0 + 22 + 22 * e + 2 + 2 * j)) → (∀ a, a < t0 + 20 → a ≠ t0 → V a = V0 a) → DL V sz → AW g mX1_init (d + 3) 64 [(3, .int (iZ (i : Int))), (0, .ref t0), (1, .int (iZ 11)), (2, .int (iZ 10))] [] V sz (fun r V' sz' mc ms => none = r ∧ t0 + 22 + 242 = sz' ∧ 22 * y = mc ∧ 81 * y = ms ∧ V' t0 = some (grO (t0 + 21) (t0 + 20) (t0 + 1) (t0 + 16) (t0 + 18) 0 0) ∧ V' (t0 + 20) = some (aIz g 11 (fun _ => 0)) ∧ V' (t0 + 21) = some (aQ g 4 11 (fun e => some (t0 + 22 + 22 * e))) ∧ WhN g V' (t0 + 16) ∧ WhN g V' (t0 + 18) ∧ (∀ e, e < 11 → RowV g V' (t0 + 22 + 22 * e) (t0 + 22 + 22 * e + 1) 10 (fun j => t0 + 22 + 22 * e + 2 + 2 * j) ∧ ∀ j, j < 10 → WhN g V' (t0 + 22 + 22 * e + 2 + 2 * j)) ∧ (∀ a, a < t0 + 20 → a ≠ t0 → V' a = V0 a) ∧ DL V' sz')
  | 0, i, hy, V, sz, hsz, h1, h5, h6, w1, w3, hR, hV, hD => by
    obtain rfl : i = 11 := by omega
    subst hsz
    refine aw_iload_n dX1_init_64 (by rfl) ?_
    refine aw_iload_n dX1_init_65 (by rfl) ?_
    refine aw_icmp_geZ (tgt := 89) dX1_init_66 (by decide) (by omega) (by omega) (fun hc_66 => ?_) (fun hc_66 => ?_)
    · refine aw_arrQ (f' := fun e => some (t0 + 22 + 22 * e)) h6 (fun e he => by rw [if_pos (by omega)]) ?_
      refine aw_ret dX1_init_89 rfl ?_
      exact ⟨rfl, by omega, rfl, rfl, (AHu_ne (by omega)).trans h1, (AHu_ne (by omega)).trans h5, AHu_self _ _ _, w1.kept (AHu_ne (by omega)) (AHu_ne (by omega)), w3.kept (AHu_ne (by omega)) (AHu_ne (by omega)), fun e he => ⟨(hR e (by omega)).1.kept (AHu_ne (by omega)) (AHu_ne (by omega)), fun j hj => ((hR e (by omega)).2 j hj).kept (AHu_ne (by omega)) (AHu_ne (by omega))⟩, fun a ha hb => (AHu_ne (by omega)).trans (hV a ha hb), hD.upd (by omega)⟩
    · exact absurd hc_66 (by omega)
  | y + 1, i, hy, V, sz, hsz, h1, h5, h6, w1, w3, hR, hV, hD => by
    have IH := fun i hi => @grB_loop g d V0 t0 y i hi
    subst hsz
    refine aw_iload_n dX1_init_64 (by rfl) ?_
    refine aw_iload_n dX1_init_65 (by rfl) ?_
    refine aw_icmp_geZ (tgt := 89) dX1_init_66 (by decide) (by omega) (by omega) (fun hc_66 => ?_) (fun hc_66 => ?_)
    · exact absurd hc_66 (by omega)
    · refine aw_aload_n dX1_init_69 (by rfl) (Or.inr ⟨_, rfl⟩) ?_
      refine aw_get fX1_41 dX1_init_70 h1 (by rfl) ?_
      refine aw_iload_n dX1_init_73 (by rfl) ?_
      refine aw_new nfX1_39 dX1_init_74 ?_
      refine aw_dup dX1_init_77 rfl ?_
      refine aw_iload_n dX1_init_78 (by rfl) ?_
      refine aw_calli iX1_45 dX1_init_79 (t_newR g d (V := AHu V (t0 + 22 + 22 * i) (.inr (2, [.null]))) (ro := t0 + 22 + 22 * i) (n := 10) (by omega) (AHu_self _ _ _) hD.nw) (by rfl) (by rfl) (by omega) (Nat.le_of_ble_eq_true rfl) ?_
      rintro _ V1 _ _ _ ⟨rfl, rfl, rfl, rfl, hE1, hD1, hR1, hW1⟩ -
      refine aw_aast (t0 := 4) (ci := 2) rfl rfl dX1_init_82 ((hE1 _ (by omega) (by omega)).trans ((AHu_ne (by omega)).trans h6)) hR1.1 (ixZ rfl (by omega) (by omega)) ?_
      refine aw_iincZ dX1_init_83 (by rfl) (by decide) ?_
      refine aw_goto (tgt := 64) dX1_init_86 (by decide) ?_
      rw [show ((i : Int) + 1) = ((i + 1 : Nat) : Int) by omega]
      refine aw_pk [3, 0, 1, 2] (by rfl) ?_
      refine AW.mono (fun r V' sz' dc ds h => ?_) (IH (i + 1) (by omega) (V := AHu V1 (t0 + 21) _) (sz := t0 + 22 + 22 * i + 1 + (1 + 2 * 10)) (by omega) ?_ ?_ ?_ ?_ ?_ (fun e he => ?_) (fun a ha hb => ?_) (hD1.upd (by omega)))
      · obtain ⟨x1, x2, x3, x4, x5⟩ := h
        exact ⟨x1, x2, by omega, by omega, x5⟩
      · rw [AHu_ne (by omega), hE1 _ (by omega) (by omega), AHu_ne (by omega)]; exact h1
      · rw [AHu_ne (by omega), hE1 _ (by omega) (by omega), AHu_ne (by omega)]; exact h5
      · rw [AHu_self]
        congr 3
        funext e
        unfold va_up
        by_cases q : e = i
        · rw [if_pos q, q, if_pos (by omega)]
        · rw [if_neg q]
          show (if e < i then some (t0 + 22 + 22 * e) else none) = (if e < i + 1 then some (t0 + 22 + 22 * e) else none)
          by_cases q2 : e < i
          · rw [if_pos q2, if_pos (by omega)]
          · rw [if_neg q2, if_neg (by omega)]
      · exact w1.kept (by rw [AHu_ne (by omega), hE1 _ (by omega) (by omega), AHu_ne (by omega)]) (by rw [AHu_ne (by omega), hE1 _ (by omega) (by omega), AHu_ne (by omega)])
      · exact w3.kept (by rw [AHu_ne (by omega), hE1 _ (by omega) (by omega), AHu_ne (by omega)]) (by rw [AHu_ne (by omega), hE1 _ (by omega) (by omega), AHu_ne (by omega)])
      · by_cases q : e = i
        · subst q
          exact ⟨hR1.kept (AHu_ne (by omega)) (AHu_ne (by omega)), fun j hj => (hW1 j hj).kept (AHu_ne (by omega)) (AHu_ne (by omega))⟩
        · exact ⟨(hR e (by omega)).1.kept (by rw [AHu_ne (by omega), hE1 _ (by omega) (by omega), AHu_ne (by omega)]) (by rw [AHu_ne (by omega), hE1 _ (by omega) (by omega), AHu_ne (by omega)]), fun j hj => ((hR e (by omega)).2 j hj).kept (by rw [AHu_ne (by omega), hE1 _ (by omega) (by omega), AHu_ne (by omega)]) (by rw [AHu_ne (by omega), hE1 _ (by omega) (by omega), AHu_ne (by omega)])⟩
      · rw [AHu_ne (by omega), hE1 a (by omega) (by omega), AHu_ne (by omega)]; exact hV a ha hb
set_option maxRecDepth 20000 in
theorem t_newGB (g : GX) (d : Nat) {V : AH} {t0 : Nat} (ht0 : V t0 = some (.inr (1, [.null, .null, .null, .null, .null, .int (iZ 0), .int (iZ 0)]))) (hD : DL V (t0 + 1)) : AMet g mX1_init (d + 3) [.ref t0, .int (iZ 11), .int (iZ 10)] V (t0 + 1) (NwQ V (t0 + 1) t0 263 983 (fun V' => GD g V' (t0 + 1) (GL t0 11 10) 0 0 (fun _ => 0) (fun i => t0 + 22 + 22 * i) ∧ DkN g V' (t0 + 1) ∧ WhN g V' (t0 + 16) ∧ WhN g V' (t0 + 18) ∧ ∀ r, r < 11 → ∀ j, j < 10 → WhN g V' (t0 + 22 + 22 * r + 2 + 2 * j))) := by
  refine AMet.of rfl rfl (Nat.le_of_ble_eq_true rfl) ?_
  show AW g mX1_init (d + 3) 0 [(0, .ref t0), (1, .int (iZ 11)), (2, .int (iZ 10))] [] V (t0 + 1) _
  refine aw_aload_n dX1_init_0 (by rfl) (Or.inr ⟨_, rfl⟩) ?_
  refine aw_objinit oX1_3 dX1_init_1 (by omega) (by decide) ?_
  refine aw_aload_n dX1_init_4 (by rfl) (Or.inr ⟨_, rfl⟩) ?_
  refine aw_new nfX1_9 dX1_init_5 ?_
  refine aw_dup dX1_init_8 rfl ?_
  refine aw_calli iX1_11 dX1_init_9 (t_newD g d (V := AHu V (t0 + 1) (.inr (0, [.null, .null, .null, .null, .null, .null, .null]))) (dk := t0 + 1) (AHu_self _ _ _) (DL.nw hD)) (by rfl) (by rfl) (by omega) (Nat.le_of_ble_eq_true rfl) ?_
  rintro _ V1_d _ _ _ ⟨rfl, rfl, rfl, rfl, hEd, hDd, hKd⟩ -
  refine aw_putF fX1_12 rfl rfl dX1_init_12 ((hEd t0 (by omega) (by omega)).trans ((AHu_ne (by omega)).trans ht0)) (by rfl) (by rfl) (Nat.le_of_ble_eq_true rfl) ?_
  refine aw_V (V' := AHu V1_d t0 (.inr (1, [.null, .null, .ref (t0 + 1), .null, .null, .int (iZ 0), .int (iZ 0)]))) rfl ?_
  obtain ⟨o0, l0, D0, K0, J0⟩ := bn_step (V0 := V) (s' := t0 + 16) (e' := .inr (1, [.null, .null, .ref (t0 + 1), .null, .null, .int (iZ 0), .int (iZ 0)])) (show t0 < t0 + 1 by omega) (fun _ _ => rfl) hEd hDd (by omega)
  have G0 : DkN g (AHu V1_d t0 (.inr (1, [.null, .null, .ref (t0 + 1), .null, .null, .int (iZ 0), .int (iZ 0)]))) (t0 + 1) := DkN.kept (V := V1_d) hKd (fun a h1 h2 => J0 a h1)
  refine aw_sz (sz1 := t0 + 16) (by omega) ?_
  generalize AHu V1_d t0 (.inr (1, [.null, .null, .ref (t0 + 1), .null, .null, .int (iZ 0), .int (iZ 0)])) = V0d at *
  refine aw_aload_n dX1_init_15 (by rfl) (Or.inr ⟨_, rfl⟩) ?_
  refine aw_new nfX1_18 dX1_init_16 ?_
  refine aw_dup dX1_init_19 rfl ?_
  refine aw_calli iX1_20 dX1_init_20 (t_newW g (d + 1) (V := AHu V0d (t0 + 16) (.inr (4, [.int (iZ 0), .int (iZ 0), .null]))) (w := t0 + 16) (AHu_self _ _ _) (DL.nw D0)) (by rfl) (by rfl) (by omega) (Nat.le_of_ble_eq_true rfl) ?_
  rintro _ V1_0 _ _ _ ⟨rfl, rfl, rfl, rfl, hE0, hD0, hW0⟩ -
  refine aw_putF fX1_21 rfl rfl dX1_init_23 ((hE0 t0 (by omega) (by omega)).trans ((AHu_ne (by omega)).trans o0)) (by rfl) (by rfl) (Nat.le_of_ble_eq_true rfl) ?_
  refine aw_V (V' := AHu V1_0 t0 (.inr (1, [.null, .null, .ref (t0 + 1), .ref (t0 + 16), .null, .int (iZ 0), .int (iZ 0)]))) rfl ?_
  obtain ⟨o1, l1, D1, W0, K1⟩ := wsb_step (V0 := V) (e' := .inr (1, [.null, .null, .ref (t0 + 1), .ref (t0 + 16), .null, .int (iZ 0), .int (iZ 0)])) l0 (show t0 < t0 + 16 by omega) hE0 hD0 hW0
  replace G0 := DkN.kept G0 (fun a h1 h2 => K1 a (by omega) (by omega))
  refine aw_sz (sz1 := t0 + 18) (by omega) ?_
  refine aw_aload_n dX1_init_26 (by rfl) (Or.inr ⟨_, rfl⟩) ?_
  refine aw_new nfX1_18 dX1_init_27 ?_
  refine aw_dup dX1_init_30 rfl ?_
  refine aw_calli iX1_20 dX1_init_31 (t_newW g (d + 1) (V := AHu (AHu V1_0 t0 (.inr (1, [.null, .null, .ref (t0 + 1), .ref (t0 + 16), .null, .int (iZ 0), .int (iZ 0)]))) (t0 + 18) (.inr (4, [.int (iZ 0), .int (iZ 0), .null]))) (w := t0 + 18) (AHu_self _ _ _) (DL.nw D1)) (by rfl) (by rfl) (by omega) (Nat.le_of_ble_eq_true rfl) ?_
  rintro _ V1_1 _ _ _ ⟨rfl, rfl, rfl, rfl, hE1, hD1, hW1⟩ -
  refine aw_putF fX1_25 rfl rfl dX1_init_34 ((hE1 t0 (by omega) (by omega)).trans ((AHu_ne (by omega)).trans o1)) (by rfl) (by rfl) (Nat.le_of_ble_eq_true rfl) ?_
  refine aw_V (V' := AHu V1_1 t0 (.inr (1, [.null, .null, .ref (t0 + 1), .ref (t0 + 16), .ref (t0 + 18), .int (iZ 0), .int (iZ 0)]))) rfl ?_
  obtain ⟨o2, l2, D2, W1, K2⟩ := wsb_step (V0 := V) (e' := .inr (1, [.null, .null, .ref (t0 + 1), .ref (t0 + 16), .ref (t0 + 18), .int (iZ 0), .int (iZ 0)])) l1 (show t0 < t0 + 18 by omega) hE1 hD1 hW1
  replace G0 := DkN.kept G0 (fun a h1 h2 => K2 a (by omega) (by omega))
  replace W0 := W0.kept (K2 _ (by omega) (by omega)) (K2 _ (by omega) (by omega))
  refine aw_sz (sz1 := t0 + 20) (by omega) ?_
  generalize AHu V1_1 t0 (.inr (1, [.null, .null, .ref (t0 + 1), .ref (t0 + 16), .ref (t0 + 18), .int (iZ 0), .int (iZ 0)])) = V2 at *
  refine aw_aload_n dX1_init_37 (by rfl) (Or.inr ⟨_, rfl⟩) ?_
  refine aw_iconstZ dX1_init_38 ?_
  refine aw_put fX1_28 dX1_init_39 o2 (by rfl) (by rfl) (Nat.le_of_ble_eq_true rfl) ?_
  refine aw_V (V' := V2) (by funext a; by_cases q : a = t0; (rw [q, AHu_self, o2]; rfl); (rw [AHu_ne q])) ?_
  refine aw_aload_n dX1_init_42 (by rfl) (Or.inr ⟨_, rfl⟩) ?_
  refine aw_iconstZ dX1_init_43 ?_
  refine aw_put fX1_32 dX1_init_44 o2 (by rfl) (by rfl) (Nat.le_of_ble_eq_true rfl) ?_
  refine aw_V (V' := V2) (by funext a; by_cases q : a = t0; (rw [q, AHu_self, o2]; rfl); (rw [AHu_ne q])) ?_
  refine aw_aload_n dX1_init_47 (by rfl) (Or.inr ⟨_, rfl⟩) ?_
  refine aw_iload_n dX1_init_48 (by rfl) ?_
  refine aw_newI (N := 11) dX1_init_49 (by decide) (by decide) (by omega) ?_
  refine aw_putF fX1_35 rfl rfl dX1_init_51 ((AHu_ne (by omega)).trans o2) (by rfl) (by rfl) (Nat.le_of_ble_eq_true rfl) ?_
  refine aw_aload_n dX1_init_54 (by rfl) (Or.inr ⟨_, rfl⟩) ?_
  refine aw_iload_n dX1_init_55 (by rfl) ?_
  refine aw_newQ (t0 := 4) (N := 11) kX1_39 (fun U h => h.2.2.1) rfl dX1_init_56 (by decide) (by decide) (by omega) ?_
  refine aw_putF fX1_41 rfl rfl dX1_init_59 ((AHu_ne (by omega)).trans (AHu_self _ _ _)) (by rfl) (by rfl) (Nat.le_of_ble_eq_true rfl) ?_
  refine aw_iconstZ dX1_init_62 ?_
  refine aw_istore_n dX1_init_63 (by decide) ?_
  refine aw_sz (sz1 := t0 + 22) (by omega) ?_
  refine aw_pk [3, 0, 1, 2] (by rfl) ?_
  refine AW.mono (fun r V' sz' dc ds h => ?_) (grB_loop g d (V0 := V2) (t0 := t0) 11 0 (by omega) (V := AHu (AHu (AHu (AHu V2 (t0 + 20) (aI g 11 (fun _ => 0))) t0 (.inr (1, [.null, .ref (t0 + 20), .ref (t0 + 1), .ref (t0 + 16), .ref (t0 + 18), .int (iZ 0), .int (iZ 0)]))) (t0 + 21) (aQ g 4 11 (fun _ => none))) t0 (.inr (1, [.ref (t0 + 21), .ref (t0 + 20), .ref (t0 + 1), .ref (t0 + 16), .ref (t0 + 18), .int (iZ 0), .int (iZ 0)]))) (sz := t0 + 22) (by omega) (AHu_self _ _ _) ?_ ?_ ?_ ?_ (fun e he => absurd he (by omega)) (fun a ha hb => ?_) ?_)
  · obtain ⟨x1, x2, x3, x4, x5, x6, x7, x8, x9, x10, x11, x12⟩ := h
    refine ⟨x1, by omega, by omega, by omega, fun a q1 q2 => (x11 a (by omega) q2).trans (l2 a (by omega)), x12, ⟨x5, x7, x6, ?_, fun i hi => ⟨i, hi, rfl⟩, fun i j hi hj hne e => ?_⟩, DkN.kept G0 (fun a h1 h2 => x11 a (by omega) (by omega)), x8, x9, fun r hr => (x10 r hr).2⟩
    · rintro ro ⟨r, hr, rfl⟩
      exact (x10 r hr).1
    · have e : t0 + 22 + 22 * i = t0 + 22 + 22 * j := e
      omega
  · rw [AHu_ne (by omega), AHu_ne (by omega), AHu_ne (by omega), AHu_self]; rfl
  · rw [AHu_ne (by omega), AHu_self]
    congr 3
  · exact W0.kept (by rw [AHu_ne (by omega), AHu_ne (by omega), AHu_ne (by omega), AHu_ne (by omega)]) (by rw [AHu_ne (by omega), AHu_ne (by omega), AHu_ne (by omega), AHu_ne (by omega)])
  · exact W1.kept (by rw [AHu_ne (by omega), AHu_ne (by omega), AHu_ne (by omega), AHu_ne (by omega)]) (by rw [AHu_ne (by omega), AHu_ne (by omega), AHu_ne (by omega), AHu_ne (by omega)])
  · rw [AHu_ne (by omega), AHu_ne (by omega), AHu_ne (by omega), AHu_ne (by omega)]
  · exact (DL.nw ((DL.nw D2).upd (by omega))).upd (by omega)
set_option maxRecDepth 20000 in
theorem grC_loop (g : GX) (d : Nat) {V0 : AH} {t0 : Nat} : ∀ (y i : Nat), i + y = 6 → ∀ {V : AH} {sz : Nat}, sz = t0 + 22 + 12 * i → V t0 = some (grO (t0 + 21) (t0 + 20) (t0 + 1) (t0 + 16) (t0 + 18) 0 0) → V (t0 + 20) = some (aIz g 6 (fun _ => 0)) → V (t0 + 21) = some (aQ g 4 6 (fun e => if e < i then some (t0 + 22 + 12 * e) else none)) → WhN g V (t0 + 16) → WhN g V (t0 + 18) → (∀ e, e < i → RowV g V (t0 + 22 + 12 * e) (t0 + 22 + 12 * e + 1) 5 (fun j => t0 + 22 + 12 * e + 2 + 2 * j) ∧ ∀ j, j < 5 → WhN g V (t0 + 22 + 12 * e + 2 + 2 * j)) → (∀ a, a < t0 + 20 → a ≠ t0 → V a = V0 a) → DL V sz → AW g mX1_init (d + 3) 64 [(3, .int (iZ (i : Int))), (0, .ref t0), (1, .int (iZ 6)), (2, .int (iZ 5))] [] V sz (fun r V' sz' mc ms => none = r ∧ t0 + 22 + 72 = sz' ∧ 12 * y = mc ∧ 41 * y = ms ∧ V' t0 = some (grO (t0 + 21) (t0 + 20) (t0 + 1) (t0 + 16) (t0 + 18) 0 0) ∧ V' (t0 + 20) = some (aIz g 6 (fun _ => 0)) ∧ V' (t0 + 21) = some (aQ g 4 6 (fun e => some (t0 + 22 + 12 * e))) ∧ WhN g V' (t0 + 16) ∧ WhN g V' (t0 + 18) ∧ (∀ e, e < 6 → RowV g V' (t0 + 22 + 12 * e) (t0 + 22 + 12 * e + 1) 5 (fun j => t0 + 22 + 12 * e + 2 + 2 * j) ∧ ∀ j, j < 5 → WhN g V' (t0 + 22 + 12 * e + 2 + 2 * j)) ∧ (∀ a, a < t0 + 20 → a ≠ t0 → V' a = V0 a) ∧ DL V' sz')
  | 0, i, hy, V, sz, hsz, h1, h5, h6, w1, w3, hR, hV, hD => by
    obtain rfl : i = 6 := by omega
    subst hsz
    refine aw_iload_n dX1_init_64 (by rfl) ?_
    refine aw_iload_n dX1_init_65 (by rfl) ?_
    refine aw_icmp_geZ (tgt := 89) dX1_init_66 (by decide) (by omega) (by omega) (fun hc_66 => ?_) (fun hc_66 => ?_)
    · refine aw_arrQ (f' := fun e => some (t0 + 22 + 12 * e)) h6 (fun e he => by rw [if_pos (by omega)]) ?_
      refine aw_ret dX1_init_89 rfl ?_
      exact ⟨rfl, by omega, rfl, rfl, (AHu_ne (by omega)).trans h1, (AHu_ne (by omega)).trans h5, AHu_self _ _ _, w1.kept (AHu_ne (by omega)) (AHu_ne (by omega)), w3.kept (AHu_ne (by omega)) (AHu_ne (by omega)), fun e he => ⟨(hR e (by omega)).1.kept (AHu_ne (by omega)) (AHu_ne (by omega)), fun j hj => ((hR e (by omega)).2 j hj).kept (AHu_ne (by omega)) (AHu_ne (by omega))⟩, fun a ha hb => (AHu_ne (by omega)).trans (hV a ha hb), hD.upd (by omega)⟩
    · exact absurd hc_66 (by omega)
  | y + 1, i, hy, V, sz, hsz, h1, h5, h6, w1, w3, hR, hV, hD => by
    have IH := fun i hi => @grC_loop g d V0 t0 y i hi
    subst hsz
    refine aw_iload_n dX1_init_64 (by rfl) ?_
    refine aw_iload_n dX1_init_65 (by rfl) ?_
    refine aw_icmp_geZ (tgt := 89) dX1_init_66 (by decide) (by omega) (by omega) (fun hc_66 => ?_) (fun hc_66 => ?_)
    · exact absurd hc_66 (by omega)
    · refine aw_aload_n dX1_init_69 (by rfl) (Or.inr ⟨_, rfl⟩) ?_
      refine aw_get fX1_41 dX1_init_70 h1 (by rfl) ?_
      refine aw_iload_n dX1_init_73 (by rfl) ?_
      refine aw_new nfX1_39 dX1_init_74 ?_
      refine aw_dup dX1_init_77 rfl ?_
      refine aw_iload_n dX1_init_78 (by rfl) ?_
      refine aw_calli iX1_45 dX1_init_79 (t_newR g d (V := AHu V (t0 + 22 + 12 * i) (.inr (2, [.null]))) (ro := t0 + 22 + 12 * i) (n := 5) (by omega) (AHu_self _ _ _) hD.nw) (by rfl) (by rfl) (by omega) (Nat.le_of_ble_eq_true rfl) ?_
      rintro _ V1 _ _ _ ⟨rfl, rfl, rfl, rfl, hE1, hD1, hR1, hW1⟩ -
      refine aw_aast (t0 := 4) (ci := 2) rfl rfl dX1_init_82 ((hE1 _ (by omega) (by omega)).trans ((AHu_ne (by omega)).trans h6)) hR1.1 (ixZ rfl (by omega) (by omega)) ?_
      refine aw_iincZ dX1_init_83 (by rfl) (by decide) ?_
      refine aw_goto (tgt := 64) dX1_init_86 (by decide) ?_
      rw [show ((i : Int) + 1) = ((i + 1 : Nat) : Int) by omega]
      refine aw_pk [3, 0, 1, 2] (by rfl) ?_
      refine AW.mono (fun r V' sz' dc ds h => ?_) (IH (i + 1) (by omega) (V := AHu V1 (t0 + 21) _) (sz := t0 + 22 + 12 * i + 1 + (1 + 2 * 5)) (by omega) ?_ ?_ ?_ ?_ ?_ (fun e he => ?_) (fun a ha hb => ?_) (hD1.upd (by omega)))
      · obtain ⟨x1, x2, x3, x4, x5⟩ := h
        exact ⟨x1, x2, by omega, by omega, x5⟩
      · rw [AHu_ne (by omega), hE1 _ (by omega) (by omega), AHu_ne (by omega)]; exact h1
      · rw [AHu_ne (by omega), hE1 _ (by omega) (by omega), AHu_ne (by omega)]; exact h5
      · rw [AHu_self]
        congr 3
        funext e
        unfold va_up
        by_cases q : e = i
        · rw [if_pos q, q, if_pos (by omega)]
        · rw [if_neg q]
          show (if e < i then some (t0 + 22 + 12 * e) else none) = (if e < i + 1 then some (t0 + 22 + 12 * e) else none)
          by_cases q2 : e < i
          · rw [if_pos q2, if_pos (by omega)]
          · rw [if_neg q2, if_neg (by omega)]
      · exact w1.kept (by rw [AHu_ne (by omega), hE1 _ (by omega) (by omega), AHu_ne (by omega)]) (by rw [AHu_ne (by omega), hE1 _ (by omega) (by omega), AHu_ne (by omega)])
      · exact w3.kept (by rw [AHu_ne (by omega), hE1 _ (by omega) (by omega), AHu_ne (by omega)]) (by rw [AHu_ne (by omega), hE1 _ (by omega) (by omega), AHu_ne (by omega)])
      · by_cases q : e = i
        · subst q
          exact ⟨hR1.kept (AHu_ne (by omega)) (AHu_ne (by omega)), fun j hj => (hW1 j hj).kept (AHu_ne (by omega)) (AHu_ne (by omega))⟩
        · exact ⟨(hR e (by omega)).1.kept (by rw [AHu_ne (by omega), hE1 _ (by omega) (by omega), AHu_ne (by omega)]) (by rw [AHu_ne (by omega), hE1 _ (by omega) (by omega), AHu_ne (by omega)]), fun j hj => ((hR e (by omega)).2 j hj).kept (by rw [AHu_ne (by omega), hE1 _ (by omega) (by omega), AHu_ne (by omega)]) (by rw [AHu_ne (by omega), hE1 _ (by omega) (by omega), AHu_ne (by omega)])⟩
      · rw [AHu_ne (by omega), hE1 a (by omega) (by omega), AHu_ne (by omega)]; exact hV a ha hb
set_option maxRecDepth 20000 in
theorem t_newGC (g : GX) (d : Nat) {V : AH} {t0 : Nat} (ht0 : V t0 = some (.inr (1, [.null, .null, .null, .null, .null, .int (iZ 0), .int (iZ 0)]))) (hD : DL V (t0 + 1)) : AMet g mX1_init (d + 3) [.ref t0, .int (iZ 6), .int (iZ 5)] V (t0 + 1) (NwQ V (t0 + 1) t0 93 328 (fun V' => GD g V' (t0 + 1) (GL t0 6 5) 0 0 (fun _ => 0) (fun i => t0 + 22 + 12 * i) ∧ DkN g V' (t0 + 1) ∧ WhN g V' (t0 + 16) ∧ WhN g V' (t0 + 18) ∧ ∀ r, r < 6 → ∀ j, j < 5 → WhN g V' (t0 + 22 + 12 * r + 2 + 2 * j))) := by
  refine AMet.of rfl rfl (Nat.le_of_ble_eq_true rfl) ?_
  show AW g mX1_init (d + 3) 0 [(0, .ref t0), (1, .int (iZ 6)), (2, .int (iZ 5))] [] V (t0 + 1) _
  refine aw_aload_n dX1_init_0 (by rfl) (Or.inr ⟨_, rfl⟩) ?_
  refine aw_objinit oX1_3 dX1_init_1 (by omega) (by decide) ?_
  refine aw_aload_n dX1_init_4 (by rfl) (Or.inr ⟨_, rfl⟩) ?_
  refine aw_new nfX1_9 dX1_init_5 ?_
  refine aw_dup dX1_init_8 rfl ?_
  refine aw_calli iX1_11 dX1_init_9 (t_newD g d (V := AHu V (t0 + 1) (.inr (0, [.null, .null, .null, .null, .null, .null, .null]))) (dk := t0 + 1) (AHu_self _ _ _) (DL.nw hD)) (by rfl) (by rfl) (by omega) (Nat.le_of_ble_eq_true rfl) ?_
  rintro _ V1_d _ _ _ ⟨rfl, rfl, rfl, rfl, hEd, hDd, hKd⟩ -
  refine aw_putF fX1_12 rfl rfl dX1_init_12 ((hEd t0 (by omega) (by omega)).trans ((AHu_ne (by omega)).trans ht0)) (by rfl) (by rfl) (Nat.le_of_ble_eq_true rfl) ?_
  refine aw_V (V' := AHu V1_d t0 (.inr (1, [.null, .null, .ref (t0 + 1), .null, .null, .int (iZ 0), .int (iZ 0)]))) rfl ?_
  obtain ⟨o0, l0, D0, K0, J0⟩ := bn_step (V0 := V) (s' := t0 + 16) (e' := .inr (1, [.null, .null, .ref (t0 + 1), .null, .null, .int (iZ 0), .int (iZ 0)])) (show t0 < t0 + 1 by omega) (fun _ _ => rfl) hEd hDd (by omega)
  have G0 : DkN g (AHu V1_d t0 (.inr (1, [.null, .null, .ref (t0 + 1), .null, .null, .int (iZ 0), .int (iZ 0)]))) (t0 + 1) := DkN.kept (V := V1_d) hKd (fun a h1 h2 => J0 a h1)
  refine aw_sz (sz1 := t0 + 16) (by omega) ?_
  generalize AHu V1_d t0 (.inr (1, [.null, .null, .ref (t0 + 1), .null, .null, .int (iZ 0), .int (iZ 0)])) = V0d at *
  refine aw_aload_n dX1_init_15 (by rfl) (Or.inr ⟨_, rfl⟩) ?_
  refine aw_new nfX1_18 dX1_init_16 ?_
  refine aw_dup dX1_init_19 rfl ?_
  refine aw_calli iX1_20 dX1_init_20 (t_newW g (d + 1) (V := AHu V0d (t0 + 16) (.inr (4, [.int (iZ 0), .int (iZ 0), .null]))) (w := t0 + 16) (AHu_self _ _ _) (DL.nw D0)) (by rfl) (by rfl) (by omega) (Nat.le_of_ble_eq_true rfl) ?_
  rintro _ V1_0 _ _ _ ⟨rfl, rfl, rfl, rfl, hE0, hD0, hW0⟩ -
  refine aw_putF fX1_21 rfl rfl dX1_init_23 ((hE0 t0 (by omega) (by omega)).trans ((AHu_ne (by omega)).trans o0)) (by rfl) (by rfl) (Nat.le_of_ble_eq_true rfl) ?_
  refine aw_V (V' := AHu V1_0 t0 (.inr (1, [.null, .null, .ref (t0 + 1), .ref (t0 + 16), .null, .int (iZ 0), .int (iZ 0)]))) rfl ?_
  obtain ⟨o1, l1, D1, W0, K1⟩ := wsb_step (V0 := V) (e' := .inr (1, [.null, .null, .ref (t0 + 1), .ref (t0 + 16), .null, .int (iZ 0), .int (iZ 0)])) l0 (show t0 < t0 + 16 by omega) hE0 hD0 hW0
  replace G0 := DkN.kept G0 (fun a h1 h2 => K1 a (by omega) (by omega))
  refine aw_sz (sz1 := t0 + 18) (by omega) ?_
  refine aw_aload_n dX1_init_26 (by rfl) (Or.inr ⟨_, rfl⟩) ?_
  refine aw_new nfX1_18 dX1_init_27 ?_
  refine aw_dup dX1_init_30 rfl ?_
  refine aw_calli iX1_20 dX1_init_31 (t_newW g (d + 1) (V := AHu (AHu V1_0 t0 (.inr (1, [.null, .null, .ref (t0 + 1), .ref (t0 + 16), .null, .int (iZ 0), .int (iZ 0)]))) (t0 + 18) (.inr (4, [.int (iZ 0), .int (iZ 0), .null]))) (w := t0 + 18) (AHu_self _ _ _) (DL.nw D1)) (by rfl) (by rfl) (by omega) (Nat.le_of_ble_eq_true rfl) ?_
  rintro _ V1_1 _ _ _ ⟨rfl, rfl, rfl, rfl, hE1, hD1, hW1⟩ -
  refine aw_putF fX1_25 rfl rfl dX1_init_34 ((hE1 t0 (by omega) (by omega)).trans ((AHu_ne (by omega)).trans o1)) (by rfl) (by rfl) (Nat.le_of_ble_eq_true rfl) ?_
  refine aw_V (V' := AHu V1_1 t0 (.inr (1, [.null, .null, .ref (t0 + 1), .ref (t0 + 16), .ref (t0 + 18), .int (iZ 0), .int (iZ 0)]))) rfl ?_
  obtain ⟨o2, l2, D2, W1, K2⟩ := wsb_step (V0 := V) (e' := .inr (1, [.null, .null, .ref (t0 + 1), .ref (t0 + 16), .ref (t0 + 18), .int (iZ 0), .int (iZ 0)])) l1 (show t0 < t0 + 18 by omega) hE1 hD1 hW1
  replace G0 := DkN.kept G0 (fun a h1 h2 => K2 a (by omega) (by omega))
  replace W0 := W0.kept (K2 _ (by omega) (by omega)) (K2 _ (by omega) (by omega))
  refine aw_sz (sz1 := t0 + 20) (by omega) ?_
  generalize AHu V1_1 t0 (.inr (1, [.null, .null, .ref (t0 + 1), .ref (t0 + 16), .ref (t0 + 18), .int (iZ 0), .int (iZ 0)])) = V2 at *
  refine aw_aload_n dX1_init_37 (by rfl) (Or.inr ⟨_, rfl⟩) ?_
  refine aw_iconstZ dX1_init_38 ?_
  refine aw_put fX1_28 dX1_init_39 o2 (by rfl) (by rfl) (Nat.le_of_ble_eq_true rfl) ?_
  refine aw_V (V' := V2) (by funext a; by_cases q : a = t0; (rw [q, AHu_self, o2]; rfl); (rw [AHu_ne q])) ?_
  refine aw_aload_n dX1_init_42 (by rfl) (Or.inr ⟨_, rfl⟩) ?_
  refine aw_iconstZ dX1_init_43 ?_
  refine aw_put fX1_32 dX1_init_44 o2 (by rfl) (by rfl) (Nat.le_of_ble_eq_true rfl) ?_
  refine aw_V (V' := V2) (by funext a; by_cases q : a = t0; (rw [q, AHu_self, o2]; rfl); (rw [AHu_ne q])) ?_
  refine aw_aload_n dX1_init_47 (by rfl) (Or.inr ⟨_, rfl⟩) ?_
  refine aw_iload_n dX1_init_48 (by rfl) ?_
  refine aw_newI (N := 6) dX1_init_49 (by decide) (by decide) (by omega) ?_
  refine aw_putF fX1_35 rfl rfl dX1_init_51 ((AHu_ne (by omega)).trans o2) (by rfl) (by rfl) (Nat.le_of_ble_eq_true rfl) ?_
  refine aw_aload_n dX1_init_54 (by rfl) (Or.inr ⟨_, rfl⟩) ?_
  refine aw_iload_n dX1_init_55 (by rfl) ?_
  refine aw_newQ (t0 := 4) (N := 6) kX1_39 (fun U h => h.2.2.1) rfl dX1_init_56 (by decide) (by decide) (by omega) ?_
  refine aw_putF fX1_41 rfl rfl dX1_init_59 ((AHu_ne (by omega)).trans (AHu_self _ _ _)) (by rfl) (by rfl) (Nat.le_of_ble_eq_true rfl) ?_
  refine aw_iconstZ dX1_init_62 ?_
  refine aw_istore_n dX1_init_63 (by decide) ?_
  refine aw_sz (sz1 := t0 + 22) (by omega) ?_
  refine aw_pk [3, 0, 1, 2] (by rfl) ?_
  refine AW.mono (fun r V' sz' dc ds h => ?_) (grC_loop g d (V0 := V2) (t0 := t0) 6 0 (by omega) (V := AHu (AHu (AHu (AHu V2 (t0 + 20) (aI g 6 (fun _ => 0))) t0 (.inr (1, [.null, .ref (t0 + 20), .ref (t0 + 1), .ref (t0 + 16), .ref (t0 + 18), .int (iZ 0), .int (iZ 0)]))) (t0 + 21) (aQ g 4 6 (fun _ => none))) t0 (.inr (1, [.ref (t0 + 21), .ref (t0 + 20), .ref (t0 + 1), .ref (t0 + 16), .ref (t0 + 18), .int (iZ 0), .int (iZ 0)]))) (sz := t0 + 22) (by omega) (AHu_self _ _ _) ?_ ?_ ?_ ?_ (fun e he => absurd he (by omega)) (fun a ha hb => ?_) ?_)
  · obtain ⟨x1, x2, x3, x4, x5, x6, x7, x8, x9, x10, x11, x12⟩ := h
    refine ⟨x1, by omega, by omega, by omega, fun a q1 q2 => (x11 a (by omega) q2).trans (l2 a (by omega)), x12, ⟨x5, x7, x6, ?_, fun i hi => ⟨i, hi, rfl⟩, fun i j hi hj hne e => ?_⟩, DkN.kept G0 (fun a h1 h2 => x11 a (by omega) (by omega)), x8, x9, fun r hr => (x10 r hr).2⟩
    · rintro ro ⟨r, hr, rfl⟩
      exact (x10 r hr).1
    · have e : t0 + 22 + 12 * i = t0 + 22 + 12 * j := e
      omega
  · rw [AHu_ne (by omega), AHu_ne (by omega), AHu_ne (by omega), AHu_self]; rfl
  · rw [AHu_ne (by omega), AHu_self]
    congr 3
  · exact W0.kept (by rw [AHu_ne (by omega), AHu_ne (by omega), AHu_ne (by omega), AHu_ne (by omega)]) (by rw [AHu_ne (by omega), AHu_ne (by omega), AHu_ne (by omega), AHu_ne (by omega)])
  · exact W1.kept (by rw [AHu_ne (by omega), AHu_ne (by omega), AHu_ne (by omega), AHu_ne (by omega)]) (by rw [AHu_ne (by omega), AHu_ne (by omega), AHu_ne (by omega), AHu_ne (by omega)])
  · rw [AHu_ne (by omega), AHu_ne (by omega), AHu_ne (by omega), AHu_ne (by omega)]
  · exact (DL.nw ((DL.nw D2).upd (by omega))).upd (by omega)

/-! ===== Row: negate, read, copyOf, lessMultiple ===== -/
abbrev mX2_negate : MI := (yX2_negate, cX2_negate, 3, none, noX)
theorem dX2_negate_0 : decode cX2_negate 0 = .ok (.iconst 0, 1) := by decide +kernel
theorem dX2_negate_1 : decode cX2_negate 1 = .ok (.istore_n 2, 1) := by decide +kernel
theorem dX2_negate_2 : decode cX2_negate 2 = .ok (.iload_n 2, 1) := by decide +kernel
theorem dX2_negate_3 : decode cX2_negate 3 = .ok (.iload_n 1, 1) := by decide +kernel
theorem dX2_negate_4 : decode cX2_negate 4 = .ok (.if_icmp .ge 28, 3) := by decide +kernel
theorem dX2_negate_7 : decode cX2_negate 7 = .ok (.aload_n 0, 1) := by decide +kernel
theorem dX2_negate_8 : decode cX2_negate 8 = .ok (.getfield 11, 3) := by decide +kernel
theorem dX2_negate_11 : decode cX2_negate 11 = .ok (.iload_n 2, 1) := by decide +kernel
theorem dX2_negate_12 : decode cX2_negate 12 = .ok (.aaload, 1) := by decide +kernel
theorem dX2_negate_13 : decode cX2_negate 13 = .ok (.aload_n 0, 1) := by decide +kernel
theorem dX2_negate_14 : decode cX2_negate 14 = .ok (.getfield 11, 3) := by decide +kernel
theorem dX2_negate_17 : decode cX2_negate 17 = .ok (.iload_n 2, 1) := by decide +kernel
theorem dX2_negate_18 : decode cX2_negate 18 = .ok (.aaload, 1) := by decide +kernel
theorem dX2_negate_19 : decode cX2_negate 19 = .ok (.getfield 36, 3) := by decide +kernel
theorem dX2_negate_22 : decode cX2_negate 22 = .ok (.ineg, 1) := by decide +kernel
theorem dX2_negate_23 : decode cX2_negate 23 = .ok (.putfield 36, 3) := by decide +kernel
theorem dX2_negate_26 : decode cX2_negate 26 = .ok (.iinc 2 1, 3) := by decide +kernel
theorem dX2_negate_29 : decode cX2_negate 29 = .ok (.goto (-27), 3) := by decide +kernel
theorem dX2_negate_32 : decode cX2_negate 32 = .ok (.return_, 1) := by decide +kernel
theorem ng_loop (g : GX) (d : Nat) {ws : List Nat} {SA : Nat → Prop} {V0 : AH} {Z0 : Nat → Int} {ro ca n w : Nat} {c : Nat → Nat} (h0 : RowV g V0 ro ca n c) (hc : ∀ j, j < n → c j ∈ ws) (hci : ∀ i j, i < n → j < n → i ≠ j → c i ≠ c j) (hSr : SA ro) (hSc : SA ca) (hw : w ≤ n) : ∀ (x j : Nat), j + x = w → ∀ {V : AH} {sz : Nat} {Z : Nat → Int} {P L : Nat → Nat}, WG g ws SA V sz Z P L → (∀ a, SA a → V a = V0 a) → RU Z0 Z c 0 j (fun j => - Z0 (c j)) E0 → AW g mX2_negate d 2 [(2, .int (iZ j)), (0, .ref ro), (1, .int (iZ w))] [] V sz (WE g ws SA E0 V sz L (fun r _ Z' => r = none ∧ RU Z0 Z' c 0 w (fun j => - Z0 (c j)) E0))
  | 0, j, hx, V, sz, Z, P, L, h, hV, hru => by
    obtain ⟨hro, hca, hn⟩ := id (h0.kept (hV ro hSr) (hV ca hSc))
    obtain rfl : w = j := by omega
    refine aw_iload_n dX2_negate_2 (by rfl) ?_
    refine aw_iload_n dX2_negate_3 (by rfl) ?_
    refine aw_icmp_geZ (tgt := 32) dX2_negate_4 (by decide) (by omega) (by omega) (fun hc_4 => ?_) (fun hc_4 => ?_)
    · refine aw_ret dX2_negate_32 rfl ?_
      exact WE.ret h ⟨rfl, hru⟩
    · exact absurd hc_4 (by omega)
  | x + 1, j, hx, V, sz, Z, P, L, h, hV, hru => by
    obtain ⟨hro, hca, hn⟩ := id (h0.kept (hV ro hSr) (hV ca hSc))
    refine aw_iload_n dX2_negate_2 (by rfl) ?_
    refine aw_iload_n dX2_negate_3 (by rfl) ?_
    refine aw_icmp_geZ (tgt := 32) dX2_negate_4 (by decide) (by omega) (by omega) (fun hc_4 => ?_) (fun hc_4 => ?_)
    · exact absurd hc_4 (by omega)
    · refine aw_aload_n dX2_negate_7 (by rfl) (Or.inr ⟨_, rfl⟩) ?_
      refine aw_get fX2_11 dX2_negate_8 (by assumption) (by rfl) ?_
      refine aw_iload_n dX2_negate_11 (by rfl) ?_
      refine aw_aaldZ (t0 := 5) (j) (by rfl) dX2_negate_12 (by assumption) (by omega) (by omega) (by omega) ?_
      obtain ⟨n1, F1, hW1⟩ := h.raw (hc j (by omega))
      have hW1o := hW1.1
      have hs1 := h.neg (hc j (by omega)) hW1
      have hru1 := hru.up (z := -Z (c j)) (by omega) (fun i hi => hci i j (by omega) (by omega) (by omega)) (by rw [hru.2 (c j) (fun q => q) (fun i _ hi => (hci i j (by omega) (by omega) (by omega)).symm)])
      refine aw_aload_n dX2_negate_13 (by rfl) (Or.inr ⟨_, rfl⟩) ?_
      refine aw_get fX2_11 dX2_negate_14 (by assumption) (by rfl) ?_
      refine aw_iload_n dX2_negate_17 (by rfl) ?_
      refine aw_aaldZ (t0 := 5) (j) (by rfl) dX2_negate_18 (by assumption) (by omega) (by omega) (by omega) ?_
      refine aw_get fX2_36 dX2_negate_19 (by assumption) (by rfl) ?_
      refine aw_inegZ dX2_negate_22 ?_
      refine aw_put fX2_36 dX2_negate_23 (by assumption) (by rfl) (by rfl) (Nat.le_of_ble_eq_true rfl) ?_
      show AW g mX2_negate d _ _ _ (AHu V (c j) (whO (-(Z (c j)).sign) n1 (P (c j)))) _ _
      refine aw_iincZ dX2_negate_26 (by rfl) (by decide) ?_
      refine aw_goto (tgt := 2) dX2_negate_29 (by decide) ?_
      refine aw_pk [2, 0, 1] (by rfl) ?_
      rw [show ((j : Int) + 1) = ((j + 1 : Nat) : Int) by omega]
      exact WE.stp0 (WSE.of hs1) (ng_loop g d h0 hc hci hSr hSc hw x (j + 1) (by omega) hs1.1 (fun a ha => (hs1.2.2.1 a ha).trans (hV a ha)) hru1)
theorem w_negate {g : GX} {ws : List Nat} {SA : Nat → Prop} {V : AH} {sz : Nat} {Z : Nat → Int} {P L : Nat → Nat} (d : Nat) {ro ca n w : Nat} {c : Nat → Nat} (h : WG g ws SA V sz Z P L) (hr : RowV g V ro ca n c) (hc : ∀ j, j < n → c j ∈ ws) (hci : ∀ i j, i < n → j < n → i ≠ j → c i ≠ c j) (hSr : SA ro) (hSc : SA ca) (hw : w ≤ n) : AMet g mX2_negate d [.ref ro, .int (iZ w)] V sz (WE g ws SA E0 V sz L (fun r _ Z' => r = none ∧ RU Z Z' c 0 w (fun j => - Z (c j)) E0)) := by
  refine AMet.of rfl rfl (Nat.le_of_ble_eq_true rfl) ?_
  show AW g mX2_negate d 0 [(0, .ref ro), (1, .int (iZ w))] [] V sz _
  refine aw_iconstZ dX2_negate_0 ?_
  refine aw_istore_n dX2_negate_1 (by decide) ?_
  refine aw_pk [2, 0, 1] (by rfl) ?_
  exact ng_loop g d hr hc hci hSr hSc hw w 0 (by omega) h (fun _ _ => rfl) RU.nil
abbrev mX2_read : MI := (yX2_read, cX2_read, 5, none, noX)
theorem dX2_read_0 : decode cX2_read 0 = .ok (.iconst 0, 1) := by decide +kernel
theorem dX2_read_1 : decode cX2_read 1 = .ok (.istore 4, 2) := by decide +kernel
theorem dX2_read_3 : decode cX2_read 3 = .ok (.iload 4, 2) := by decide +kernel
theorem dX2_read_5 : decode cX2_read 5 = .ok (.aload_n 1, 1) := by decide +kernel
theorem dX2_read_6 : decode cX2_read 6 = .ok (.getfield 18, 3) := by decide +kernel
theorem dX2_read_9 : decode cX2_read 9 = .ok (.if_icmp .ge 33, 3) := by decide +kernel
theorem dX2_read_12 : decode cX2_read 12 = .ok (.aload_n 0, 1) := by decide +kernel
theorem dX2_read_13 : decode cX2_read 13 = .ok (.getfield 11, 3) := by decide +kernel
theorem dX2_read_16 : decode cX2_read 16 = .ok (.iload 4, 2) := by decide +kernel
theorem dX2_read_18 : decode cX2_read 18 = .ok (.aaload, 1) := by decide +kernel
theorem dX2_read_19 : decode cX2_read 19 = .ok (.iload_n 3, 1) := by decide +kernel
theorem dX2_read_20 : decode cX2_read 20 = .ok (.aload_n 1, 1) := by decide +kernel
theorem dX2_read_21 : decode cX2_read 21 = .ok (.getfield 24, 3) := by decide +kernel
theorem dX2_read_24 : decode cX2_read 24 = .ok (.iload_n 2, 1) := by decide +kernel
theorem dX2_read_25 : decode cX2_read 25 = .ok (.iconst 5, 1) := by decide +kernel
theorem dX2_read_26 : decode cX2_read 26 = .ok (.imul, 1) := by decide +kernel
theorem dX2_read_27 : decode cX2_read 27 = .ok (.iload 4, 2) := by decide +kernel
theorem dX2_read_29 : decode cX2_read 29 = .ok (.iadd, 1) := by decide +kernel
theorem dX2_read_30 : decode cX2_read 30 = .ok (.iaload, 1) := by decide +kernel
theorem dX2_read_31 : decode cX2_read 31 = .ok (.imul, 1) := by decide +kernel
theorem dX2_read_32 : decode cX2_read 32 = .ok (.i2l, 1) := by decide +kernel
theorem dX2_read_33 : decode cX2_read 33 = .ok (.invokevirtual 28, 3) := by decide +kernel
theorem dX2_read_36 : decode cX2_read 36 = .ok (.iinc 4 1, 3) := by decide +kernel
theorem dX2_read_39 : decode cX2_read 39 = .ok (.goto (-36), 3) := by decide +kernel
theorem dX2_read_42 : decode cX2_read 42 = .ok (.return_, 1) := by decide +kernel
theorem rd_loop (g : GX) (d : Nat) {ws : List Nat} {SA : Nat → Prop} {V0 : AH} {Z0 : Nat → Int} {ro ca n w tb na ta i : Nat} {rr f : Int} {c : Nat → Nat} {N : Nat → Int} (h0 : RowV g V0 ro ca n c) (ht0 : V0 tb = some (tbO rr w na ta)) (hN0 : V0 na = some (aIz g 25 N)) (hNr : ∀ k, k < 25 → -1000 ≤ N k ∧ N k ≤ 1000) (hf : f = 1 ∨ f = -1) (hi : i < 5) (hc : ∀ j, j < n → c j ∈ ws) (hci : ∀ i j, i < n → j < n → i ≠ j → c i ≠ c j) (hSr : SA ro) (hSc : SA ca) (hSt : SA tb) (hSn : SA na) (hw : w ≤ n ∧ w ≤ 5) : ∀ (x j : Nat), j + x = w → ∀ {V : AH} {sz : Nat} {Z : Nat → Int} {P L : Nat → Nat}, WG g ws SA V sz Z P L → (∀ a, SA a → V a = V0 a) → RU Z0 Z c 0 j (fun j => f * N (5 * i + j)) E0 → AW g mX2_read (d + 2) 3 [(4, .int (iZ j)), (0, .ref ro), (1, .ref tb), (2, .int (iZ i)), (3, .int (iZ f))] [] V sz (WE g ws SA E0 V sz L (fun r _ Z' => r = none ∧ RU Z0 Z' c 0 w (fun j => f * N (5 * i + j)) E0))
  | 0, j, hx, V, sz, Z, P, L, h, hV, hru => by
    obtain ⟨hro, hca, hn⟩ := id (h0.kept (hV ro hSr) (hV ca hSc))
    have ht := (hV tb hSt).trans ht0
    have hN := (hV na hSn).trans hN0
    obtain rfl : w = j := by omega
    refine aw_iload dX2_read_3 (by rfl) ?_
    refine aw_aload_n dX2_read_5 (by rfl) (Or.inr ⟨_, rfl⟩) ?_
    refine aw_get fX2_18 dX2_read_6 (by assumption) (by rfl) ?_
    refine aw_icmp_geZ (tgt := 42) dX2_read_9 (by decide) (by omega) (by omega) (fun hc_9 => ?_) (fun hc_9 => ?_)
    · refine aw_ret dX2_read_42 rfl ?_
      exact WE.ret h ⟨rfl, hru⟩
    · exact absurd hc_9 (by omega)
  | x + 1, j, hx, V, sz, Z, P, L, h, hV, hru => by
    obtain ⟨hro, hca, hn⟩ := id (h0.kept (hV ro hSr) (hV ca hSc))
    have ht := (hV tb hSt).trans ht0
    have hN := (hV na hSn).trans hN0
    refine aw_iload dX2_read_3 (by rfl) ?_
    refine aw_aload_n dX2_read_5 (by rfl) (Or.inr ⟨_, rfl⟩) ?_
    refine aw_get fX2_18 dX2_read_6 (by assumption) (by rfl) ?_
    refine aw_icmp_geZ (tgt := 42) dX2_read_9 (by decide) (by omega) (by omega) (fun hc_9 => ?_) (fun hc_9 => ?_)
    · exact absurd hc_9 (by omega)
    · refine aw_aload_n dX2_read_12 (by rfl) (Or.inr ⟨_, rfl⟩) ?_
      refine aw_get fX2_11 dX2_read_13 (by assumption) (by rfl) ?_
      refine aw_iload dX2_read_16 (by rfl) ?_
      refine aw_aaldZ (t0 := 5) (j) (by rfl) dX2_read_18 (by assumption) (by omega) (by omega) (by omega) ?_
      obtain ⟨n1, F1, hW1⟩ := h.raw (hc j (by omega))
      refine aw_iload_n dX2_read_19 (by rfl) ?_
      refine aw_aload_n dX2_read_20 (by rfl) (Or.inr ⟨_, rfl⟩) ?_
      refine aw_get fX2_24 dX2_read_21 (by assumption) (by rfl) ?_
      refine aw_iload_n dX2_read_24 (by rfl) ?_
      refine aw_iconstZ dX2_read_25 ?_
      refine aw_imulZ dX2_read_26 ?_
      refine aw_iload dX2_read_27 (by rfl) ?_
      refine aw_iaddZ dX2_read_29 ?_
      refine aw_ialdZ (5 * i + j) dX2_read_30 (by assumption) (by omega) (by omega) (by omega) ?_
      have hNj := hNr (5 * i + j) (by omega)
      refine aw_imulZ dX2_read_31 ?_
      refine aw_i2lZ dX2_read_32 (by rcases hf with rfl | rfl <;> omega) ?_
      refine aw_callv vX2_28 dX2_read_33 hW1.1 (w_put d h (hc j (by omega)) (z := f * N (5 * i + j)) (by rcases hf with rfl | rfl <;> omega)) (by rfl) (by rfl) (by omega) (Nat.le_of_ble_eq_true rfl) ?_
      rintro _ V1 sz1 mc ms ⟨rfl, P1, L1, hs1⟩ -
      have hru1 := hru.up (z := f * N (5 * i + j)) (by omega) (fun i hi => hci i j (by omega) (by omega) (by omega)) rfl
      refine WE.stp (WSE.of hs1) ?_
      refine aw_iincZ dX2_read_36 (by rfl) (by decide) ?_
      refine aw_goto (tgt := 3) dX2_read_39 (by decide) ?_
      refine aw_pk [4, 0, 1, 2, 3] (by rfl) ?_
      rw [show ((j : Int) + 1) = ((j + 1 : Nat) : Int) by omega]
      exact rd_loop g d h0 ht0 hN0 hNr hf hi hc hci hSr hSc hSt hSn hw x (j + 1) (by omega) hs1.1 (fun a ha => (hs1.2.2.1 a ha).trans (hV a ha)) hru1
theorem w_read {g : GX} {ws : List Nat} {SA : Nat → Prop} {V : AH} {sz : Nat} {Z : Nat → Int} {P L : Nat → Nat} (d : Nat) {ro ca n w tb na ta i : Nat} {rr f : Int} {c : Nat → Nat} {N : Nat → Int} (h : WG g ws SA V sz Z P L) (hr : RowV g V ro ca n c) (ht : V tb = some (tbO rr w na ta)) (hN : V na = some (aIz g 25 N)) (hNr : ∀ k, k < 25 → -1000 ≤ N k ∧ N k ≤ 1000) (hf : f = 1 ∨ f = -1) (hi : i < 5) (hc : ∀ j, j < n → c j ∈ ws) (hci : ∀ i j, i < n → j < n → i ≠ j → c i ≠ c j) (hSr : SA ro) (hSc : SA ca) (hSt : SA tb) (hSn : SA na) (hw : w ≤ n ∧ w ≤ 5) : AMet g mX2_read (d + 2) [.ref ro, .ref tb, .int (iZ i), .int (iZ f)] V sz (WE g ws SA E0 V sz L (fun r _ Z' => r = none ∧ RU Z Z' c 0 w (fun j => f * N (5 * i + j)) E0)) := by
  refine AMet.of rfl rfl (Nat.le_of_ble_eq_true rfl) ?_
  show AW g mX2_read (d + 2) 0 [(0, .ref ro), (1, .ref tb), (2, .int (iZ i)), (3, .int (iZ f))] [] V sz _
  refine aw_iconstZ dX2_read_0 ?_
  refine aw_istore dX2_read_1 (by decide) ?_
  refine aw_pk [4, 0, 1, 2, 3] (by rfl) ?_
  exact rd_loop g d hr ht hN hNr hf hi hc hci hSr hSc hSt hSn hw w 0 (by omega) h (fun _ _ => rfl) RU.nil
abbrev mX2_copyOf : MI := (yX2_copyOf, cX2_copyOf, 4, none, noX)
theorem dX2_copyOf_0 : decode cX2_copyOf 0 = .ok (.iconst 0, 1) := by decide +kernel
theorem dX2_copyOf_1 : decode cX2_copyOf 1 = .ok (.istore_n 3, 1) := by decide +kernel
theorem dX2_copyOf_2 : decode cX2_copyOf 2 = .ok (.iload_n 3, 1) := by decide +kernel
theorem dX2_copyOf_3 : decode cX2_copyOf 3 = .ok (.iload_n 2, 1) := by decide +kernel
theorem dX2_copyOf_4 : decode cX2_copyOf 4 = .ok (.if_icmp .ge 24, 3) := by decide +kernel
theorem dX2_copyOf_7 : decode cX2_copyOf 7 = .ok (.aload_n 0, 1) := by decide +kernel
theorem dX2_copyOf_8 : decode cX2_copyOf 8 = .ok (.getfield 11, 3) := by decide +kernel
theorem dX2_copyOf_11 : decode cX2_copyOf 11 = .ok (.iload_n 3, 1) := by decide +kernel
theorem dX2_copyOf_12 : decode cX2_copyOf 12 = .ok (.aaload, 1) := by decide +kernel
theorem dX2_copyOf_13 : decode cX2_copyOf 13 = .ok (.aload_n 1, 1) := by decide +kernel
theorem dX2_copyOf_14 : decode cX2_copyOf 14 = .ok (.getfield 11, 3) := by decide +kernel
theorem dX2_copyOf_17 : decode cX2_copyOf 17 = .ok (.iload_n 3, 1) := by decide +kernel
theorem dX2_copyOf_18 : decode cX2_copyOf 18 = .ok (.aaload, 1) := by decide +kernel
theorem dX2_copyOf_19 : decode cX2_copyOf 19 = .ok (.invokevirtual 32, 3) := by decide +kernel
theorem dX2_copyOf_22 : decode cX2_copyOf 22 = .ok (.iinc 3 1, 3) := by decide +kernel
theorem dX2_copyOf_25 : decode cX2_copyOf 25 = .ok (.goto (-23), 3) := by decide +kernel
theorem dX2_copyOf_28 : decode cX2_copyOf 28 = .ok (.return_, 1) := by decide +kernel
theorem Sm.u156 {z : Int} (h : Sm z) : (z.natAbs : Int) < 2147483648 ^ 156 := Int.lt_of_lt_of_le h (pw_le (by omega) (by omega))
theorem co_loop (g : GX) (d : Nat) {ws : List Nat} {SA : Nat → Prop} {V0 : AH} {Z0 : Nat → Int} {ro ca n ro2 ca2 n2 w : Nat} {c c2 : Nat → Nat} (h0 : RowV g V0 ro ca n c) (h02 : RowV g V0 ro2 ca2 n2 c2) (hc : ∀ j, j < n → c j ∈ ws) (hc2 : ∀ j, j < n2 → c2 j ∈ ws) (hci : ∀ i j, i < n → j < n → i ≠ j → c i ≠ c j) (h12 : ∀ i j, i < n → j < n2 → c i ≠ c2 j) (hSr : SA ro) (hSc : SA ca) (hSr2 : SA ro2) (hSc2 : SA ca2) (hw : w ≤ n ∧ w ≤ n2) (hSm : ∀ j, j < w → Sm (Z0 (c2 j))) : ∀ (x j : Nat), j + x = w → ∀ {V : AH} {sz : Nat} {Z : Nat → Int} {P L : Nat → Nat}, WG g ws SA V sz Z P L → (∀ a, SA a → V a = V0 a) → RU Z0 Z c 0 j (fun j => Z0 (c2 j)) E0 → AW g mX2_copyOf (d + 4) 2 [(3, .int (iZ j)), (0, .ref ro), (1, .ref ro2), (2, .int (iZ w))] [] V sz (WE g ws SA E0 V sz L (fun r _ Z' => r = none ∧ RU Z0 Z' c 0 w (fun j => Z0 (c2 j)) E0))
  | 0, j, hx, V, sz, Z, P, L, h, hV, hru => by
    obtain ⟨hro, hca, hn⟩ := id (h0.kept (hV ro hSr) (hV ca hSc))
    obtain rfl : w = j := by omega
    refine aw_iload_n dX2_copyOf_2 (by rfl) ?_
    refine aw_iload_n dX2_copyOf_3 (by rfl) ?_
    refine aw_icmp_geZ (tgt := 28) dX2_copyOf_4 (by decide) (by omega) (by omega) (fun hc_4 => ?_) (fun hc_4 => ?_)
    · refine aw_ret dX2_copyOf_28 rfl ?_
      exact WE.ret h ⟨rfl, hru⟩
    · exact absurd hc_4 (by omega)
  | x + 1, j, hx, V, sz, Z, P, L, h, hV, hru => by
    obtain ⟨hro, hca, hn⟩ := id (h0.kept (hV ro hSr) (hV ca hSc))
    obtain ⟨hro2, hca2, hn2⟩ := id (h02.kept (hV ro2 hSr2) (hV ca2 hSc2))
    refine aw_iload_n dX2_copyOf_2 (by rfl) ?_
    refine aw_iload_n dX2_copyOf_3 (by rfl) ?_
    refine aw_icmp_geZ (tgt := 28) dX2_copyOf_4 (by decide) (by omega) (by omega) (fun hc_4 => ?_) (fun hc_4 => ?_)
    · exact absurd hc_4 (by omega)
    · obtain ⟨n1, F1, hW1⟩ := h.raw (hc j (by omega))
      have he : Z (c2 j) = Z0 (c2 j) := hru.2 _ (fun q => q) (fun i _ hi => (h12 i j (by omega) (by omega)).symm)
      refine aw_aload_n dX2_copyOf_7 (by rfl) (Or.inr ⟨_, rfl⟩) ?_
      refine aw_get fX2_11 dX2_copyOf_8 (by assumption) (by rfl) ?_
      refine aw_iload_n dX2_copyOf_11 (by rfl) ?_
      refine aw_aaldZ (t0 := 5) (j) (by rfl) dX2_copyOf_12 (by assumption) (by omega) (by omega) (by omega) ?_
      refine aw_aload_n dX2_copyOf_13 (by rfl) (Or.inr ⟨_, rfl⟩) ?_
      refine aw_get fX2_11 dX2_copyOf_14 (by assumption) (by rfl) ?_
      refine aw_iload_n dX2_copyOf_17 (by rfl) ?_
      refine aw_aaldZ (t0 := 5) (j) (by rfl) dX2_copyOf_18 (by assumption) (by omega) (by omega) (by omega) ?_
      refine aw_callv vX2_32 dX2_copyOf_19 hW1.1 (w_copy d h (hc j (by omega)) (hc2 j (by omega)) (h12 j j (by omega) (by omega)) (Sm.u156 (by rw [he]; exact hSm j (by omega)))) (by rfl) (by rfl) (by omega) (Nat.le_of_ble_eq_true rfl) ?_
      rintro _ V1 sz1 mc ms ⟨rfl, P1, L1, hs1⟩ -
      have hru1 := hru.up (z := Z (c2 j)) (by omega) (fun i hi => hci i j (by omega) (by omega) (by omega)) he
      refine WE.stp (WSE.of hs1) ?_
      refine aw_iincZ dX2_copyOf_22 (by rfl) (by decide) ?_
      refine aw_goto (tgt := 2) dX2_copyOf_25 (by decide) ?_
      refine aw_pk [3, 0, 1, 2] (by rfl) ?_
      rw [show ((j : Int) + 1) = ((j + 1 : Nat) : Int) by omega]
      exact co_loop g d h0 h02 hc hc2 hci h12 hSr hSc hSr2 hSc2 hw hSm x (j + 1) (by omega) hs1.1 (fun a ha => (hs1.2.2.1 a ha).trans (hV a ha)) hru1
theorem w_copyOf {g : GX} {ws : List Nat} {SA : Nat → Prop} {V : AH} {sz : Nat} {Z : Nat → Int} {P L : Nat → Nat} (d : Nat) {ro ca n ro2 ca2 n2 w : Nat} {c c2 : Nat → Nat} (h : WG g ws SA V sz Z P L) (hr : RowV g V ro ca n c) (hr2 : RowV g V ro2 ca2 n2 c2) (hc : ∀ j, j < n → c j ∈ ws) (hc2 : ∀ j, j < n2 → c2 j ∈ ws) (hci : ∀ i j, i < n → j < n → i ≠ j → c i ≠ c j) (h12 : ∀ i j, i < n → j < n2 → c i ≠ c2 j) (hSr : SA ro) (hSc : SA ca) (hSr2 : SA ro2) (hSc2 : SA ca2) (hw : w ≤ n ∧ w ≤ n2) (hSm : ∀ j, j < w → Sm (Z (c2 j))) : AMet g mX2_copyOf (d + 4) [.ref ro, .ref ro2, .int (iZ w)] V sz (WE g ws SA E0 V sz L (fun r _ Z' => r = none ∧ RU Z Z' c 0 w (fun j => Z (c2 j)) E0)) := by
  refine AMet.of rfl rfl (Nat.le_of_ble_eq_true rfl) ?_
  show AW g mX2_copyOf (d + 4) 0 [(0, .ref ro), (1, .ref ro2), (2, .int (iZ w))] [] V sz _
  refine aw_iconstZ dX2_copyOf_0 ?_
  refine aw_istore_n dX2_copyOf_1 (by decide) ?_
  refine aw_pk [3, 0, 1, 2] (by rfl) ?_
  exact co_loop g d hr hr2 hc hc2 hci h12 hSr hSc hSr2 hSc2 hw hSm w 0 (by omega) h (fun _ _ => rfl) RU.nil
abbrev mX2_lessMultiple : MI := (yX2_lessMultiple, cX2_lessMultiple, 7, none, noX)
theorem dX2_lessMultiple_0 : decode cX2_lessMultiple 0 = .ok (.iload_n 3, 1) := by decide +kernel
theorem dX2_lessMultiple_1 : decode cX2_lessMultiple 1 = .ok (.istore 6, 2) := by decide +kernel
theorem dX2_lessMultiple_3 : decode cX2_lessMultiple 3 = .ok (.iload 6, 2) := by decide +kernel
theorem dX2_lessMultiple_5 : decode cX2_lessMultiple 5 = .ok (.iload 4, 2) := by decide +kernel
theorem dX2_lessMultiple_7 : decode cX2_lessMultiple 7 = .ok (.if_icmp .ge 55, 3) := by decide +kernel
theorem dX2_lessMultiple_10 : decode cX2_lessMultiple 10 = .ok (.aload_n 1, 1) := by decide +kernel
theorem dX2_lessMultiple_11 : decode cX2_lessMultiple 11 = .ok (.getfield 36, 3) := by decide +kernel
theorem dX2_lessMultiple_14 : decode cX2_lessMultiple 14 = .ok (.ifCond .eq 48, 3) := by decide +kernel
theorem dX2_lessMultiple_17 : decode cX2_lessMultiple 17 = .ok (.aload_n 2, 1) := by decide +kernel
theorem dX2_lessMultiple_18 : decode cX2_lessMultiple 18 = .ok (.getfield 11, 3) := by decide +kernel
theorem dX2_lessMultiple_21 : decode cX2_lessMultiple 21 = .ok (.iload 6, 2) := by decide +kernel
theorem dX2_lessMultiple_23 : decode cX2_lessMultiple 23 = .ok (.aaload, 1) := by decide +kernel
theorem dX2_lessMultiple_24 : decode cX2_lessMultiple 24 = .ok (.getfield 36, 3) := by decide +kernel
theorem dX2_lessMultiple_27 : decode cX2_lessMultiple 27 = .ok (.ifCond .eq 29, 3) := by decide +kernel
theorem dX2_lessMultiple_30 : decode cX2_lessMultiple 30 = .ok (.aload 5, 2) := by decide +kernel
theorem dX2_lessMultiple_32 : decode cX2_lessMultiple 32 = .ok (.aload_n 1, 1) := by decide +kernel
theorem dX2_lessMultiple_33 : decode cX2_lessMultiple 33 = .ok (.aload_n 2, 1) := by decide +kernel
theorem dX2_lessMultiple_34 : decode cX2_lessMultiple 34 = .ok (.getfield 11, 3) := by decide +kernel
theorem dX2_lessMultiple_37 : decode cX2_lessMultiple 37 = .ok (.iload 6, 2) := by decide +kernel
theorem dX2_lessMultiple_39 : decode cX2_lessMultiple 39 = .ok (.aaload, 1) := by decide +kernel
theorem dX2_lessMultiple_40 : decode cX2_lessMultiple 40 = .ok (.invokevirtual 39, 3) := by decide +kernel
theorem dX2_lessMultiple_43 : decode cX2_lessMultiple 43 = .ok (.aload_n 0, 1) := by decide +kernel
theorem dX2_lessMultiple_44 : decode cX2_lessMultiple 44 = .ok (.getfield 11, 3) := by decide +kernel
theorem dX2_lessMultiple_47 : decode cX2_lessMultiple 47 = .ok (.iload 6, 2) := by decide +kernel
theorem dX2_lessMultiple_49 : decode cX2_lessMultiple 49 = .ok (.aaload, 1) := by decide +kernel
theorem dX2_lessMultiple_50 : decode cX2_lessMultiple 50 = .ok (.aload 5, 2) := by decide +kernel
theorem dX2_lessMultiple_52 : decode cX2_lessMultiple 52 = .ok (.iconst (-1), 1) := by decide +kernel
theorem dX2_lessMultiple_53 : decode cX2_lessMultiple 53 = .ok (.invokevirtual 43, 3) := by decide +kernel
theorem dX2_lessMultiple_56 : decode cX2_lessMultiple 56 = .ok (.iinc 6 1, 3) := by decide +kernel
theorem dX2_lessMultiple_59 : decode cX2_lessMultiple 59 = .ok (.goto (-56), 3) := by decide +kernel
theorem dX2_lessMultiple_62 : decode cX2_lessMultiple 62 = .ok (.return_, 1) := by decide +kernel
theorem RU.zero {Z0 Z : Nat → Int} {c c2 : Nat → Nat} {fr j w f : Nat} {sc : Nat → Prop} {n : Nat} (hci : ∀ i j, i < n → j < n → i ≠ j → c i ≠ c j) (hsc : ∀ i, i < n → ¬ sc (c i)) (hjw : j ≤ w ∧ w ≤ n) (h : RU Z0 Z c fr j (fun j => Z0 (c j) - Z0 f * Z0 (c2 j)) sc) (h0 : Z0 f = 0) : RU Z0 Z c fr w (fun j => Z0 (c j) - Z0 f * Z0 (c2 j)) sc := by
  refine ⟨fun i h1 h2 => ?_, fun x h1 h2 => h.2 x h1 (fun i h3 h4 => h2 i h3 (by omega))⟩
  by_cases hi : i < j
  · exact h.1 i h1 hi
  · show Z (c i) = Z0 (c i) - Z0 f * Z0 (c2 i)
    rw [h0, Int.zero_mul, Int.sub_zero]
    exact h.2 (c i) (hsc i (by omega)) (fun k _ hk => (hci k i (by omega) (by omega) (by omega)).symm)
theorem lm_loop (g : GX) (d : Nat) {ws : List Nat} {SA : Nat → Prop} {V0 : AH} {Z0 : Nat → Int} {ro ca n ro2 ca2 n2 w fr f pr : Nat} {c c2 : Nat → Nat} (h0 : RowV g V0 ro ca n c) (h02 : RowV g V0 ro2 ca2 n2 c2) (hc : ∀ j, j < n → c j ∈ ws) (hc2 : ∀ j, j < n2 → c2 j ∈ ws) (hci : ∀ i j, i < n → j < n → i ≠ j → c i ≠ c j) (h12 : ∀ i j, i < n → j < n2 → c i ≠ c2 j) (hfc : ∀ j, j < n → f ≠ c j) (hfp : f ≠ pr) (hpc : ∀ j, j < n → pr ≠ c j) (hpc2 : ∀ j, j < n2 → pr ≠ c2 j) (hfw : f ∈ ws) (hpw : pr ∈ ws) (hSr : SA ro) (hSc : SA ca) (hSr2 : SA ro2) (hSc2 : SA ca2) (hw : fr ≤ w ∧ w ≤ n ∧ w ≤ n2) (hSf : Sm (Z0 f)) (hSm : ∀ j, fr ≤ j → j < w → Sm (Z0 (c j)) ∧ Sm (Z0 (c2 j)) ∧ Sm (Z0 f * Z0 (c2 j))) : ∀ (x j : Nat), j + x = w → fr ≤ j → ∀ {V : AH} {sz : Nat} {Z : Nat → Int} {P L : Nat → Nat}, WG g ws SA V sz Z P L → (∀ a, SA a → V a = V0 a) → RU Z0 Z c fr j (fun j => Z0 (c j) - Z0 f * Z0 (c2 j)) (fun x => x = pr) → AW g mX2_lessMultiple (d + 4) 3 [(6, .int (iZ j)), (0, .ref ro), (1, .ref f), (2, .ref ro2), (3, .int (iZ fr)), (4, .int (iZ w)), (5, .ref pr)] [] V sz (WE g ws SA E0 V sz L (fun r _ Z' => r = none ∧ RU Z0 Z' c fr w (fun j => Z0 (c j) - Z0 f * Z0 (c2 j)) (fun x => x = pr)))
  | 0, j, hx, hfj, V, sz, Z, P, L, h, hV, hru => by
    obtain ⟨hro, hca, hn⟩ := id (h0.kept (hV ro hSr) (hV ca hSc))
    obtain rfl : w = j := by omega
    refine aw_iload dX2_lessMultiple_3 (by rfl) ?_
    refine aw_iload dX2_lessMultiple_5 (by rfl) ?_
    refine aw_icmp_geZ (tgt := 62) dX2_lessMultiple_7 (by decide) (by omega) (by omega) (fun hc_7 => ?_) (fun hc_7 => ?_)
    · refine aw_ret dX2_lessMultiple_62 rfl ?_
      exact WE.ret h ⟨rfl, hru⟩
    · exact absurd hc_7 (by omega)
  | x + 1, j, hx, hfj, V, sz, Z, P, L, h, hV, hru => by
    obtain ⟨hro, hca, hn⟩ := id (h0.kept (hV ro hSr) (hV ca hSc))
    obtain ⟨hro2, hca2, hn2⟩ := id (h02.kept (hV ro2 hSr2) (hV ca2 hSc2))
    refine aw_iload dX2_lessMultiple_3 (by rfl) ?_
    refine aw_iload dX2_lessMultiple_5 (by rfl) ?_
    refine aw_icmp_geZ (tgt := 62) dX2_lessMultiple_7 (by decide) (by omega) (by omega) (fun hc_7 => ?_) (fun hc_7 => ?_)
    · exact absurd hc_7 (by omega)
    · obtain ⟨nf, Ff, hWf⟩ := h.raw hfw
      obtain ⟨np, Fp, hWp⟩ := h.raw hpw
      obtain ⟨nc2, Fc2, hWc2⟩ := h.raw (hc2 j (by omega))
      have hWfo := hWf.1
      have hWc2o := hWc2.1
      have hef : Z f = Z0 f := hru.2 f hfp (fun i _ hi => hfc i (by omega))
      have he1 : Z (c j) = Z0 (c j) := hru.2 (c j) (hpc j (by omega)).symm (fun i _ hi => (hci i j (by omega) (by omega) (by omega)).symm)
      have he2 : Z (c2 j) = Z0 (c2 j) := hru.2 (c2 j) (hpc2 j (by omega)).symm (fun i _ hi => (h12 i j (by omega) (by omega)).symm)
      refine aw_aload_n dX2_lessMultiple_10 (by rfl) (Or.inr ⟨_, rfl⟩) ?_
      refine aw_get fX2_36 dX2_lessMultiple_11 (by assumption) (by rfl) ?_
      refine aw_if_eqZ (tgt := 62) dX2_lessMultiple_14 (by decide) (sgn_R _) (fun hc_14 => ?_) (fun hc_14 => ?_)
      · have hf0 : Z0 f = 0 := by rw [← hef]; exact sgn0.mp hc_14
        refine aw_ret dX2_lessMultiple_62 rfl ?_
        exact WE.ret h ⟨rfl, RU.zero hci (fun i hi q => hpc i hi q.symm) (by omega) hru hf0⟩
      · refine aw_aload_n dX2_lessMultiple_17 (by rfl) (Or.inr ⟨_, rfl⟩) ?_
        refine aw_get fX2_11 dX2_lessMultiple_18 (by assumption) (by rfl) ?_
        refine aw_iload dX2_lessMultiple_21 (by rfl) ?_
        refine aw_aaldZ (t0 := 5) (j) (by rfl) dX2_lessMultiple_23 (by assumption) (by omega) (by omega) (by omega) ?_
        refine aw_get fX2_36 dX2_lessMultiple_24 (by assumption) (by rfl) ?_
        refine aw_if_eqZ (tgt := 56) dX2_lessMultiple_27 (by decide) (sgn_R _) (fun hc_27 => ?_) (fun hc_27 => ?_)
        · have h5 : Z0 (c2 j) = 0 := by rw [← he2]; exact sgn0.mp hc_27
          have hruS := hru.skip (show Z (c j) = Z0 (c j) - Z0 f * Z0 (c2 j) by rw [he1, h5, Int.mul_zero, Int.sub_zero])
          refine aw_iincZ dX2_lessMultiple_56 (by rfl) (by decide) ?_
          refine aw_goto (tgt := 3) dX2_lessMultiple_59 (by decide) ?_
          refine aw_pk [6, 0, 1, 2, 3, 4, 5] (by rfl) ?_
          rw [show ((j : Int) + 1) = ((j + 1 : Nat) : Int) by omega]
          first
          | exact lm_loop g d h0 h02 hc hc2 hci h12 hfc hfp hpc hpc2 hfw hpw hSr hSc hSr2 hSc2 hw hSf hSm x (j + 1) (by omega) (by omega) hs2.1 (fun a ha => (hs2.2.2.1 a ha).trans (hV1 a ha)) hru2
          | exact lm_loop g d h0 h02 hc hc2 hci h12 hfc hfp hpc hpc2 hfw hpw hSr hSc hSr2 hSc2 hw hSf hSm x (j + 1) (by omega) (by omega) h hV hruS
        · refine aw_aload dX2_lessMultiple_30 (by rfl) (Or.inr ⟨_, rfl⟩) ?_
          refine aw_aload_n dX2_lessMultiple_32 (by rfl) (Or.inr ⟨_, rfl⟩) ?_
          refine aw_aload_n dX2_lessMultiple_33 (by rfl) (Or.inr ⟨_, rfl⟩) ?_
          refine aw_get fX2_11 dX2_lessMultiple_34 (by assumption) (by rfl) ?_
          refine aw_iload dX2_lessMultiple_37 (by rfl) ?_
          refine aw_aaldZ (t0 := 5) (j) (by rfl) dX2_lessMultiple_39 (by assumption) (by omega) (by omega) (by omega) ?_
          refine aw_callv vX2_39 dX2_lessMultiple_40 hWp.1 (w_product d h hpw hfw (hc2 j (by omega)) hfp.symm (hpc2 j (by omega)) (by rw [hef]; exact hSf) (by rw [he2]; exact (hSm j (by omega) (by omega)).2.1) (by rw [hef, he2]; exact (hSm j (by omega) (by omega)).2.2)) (by rfl) (by rfl) (by omega) (Nat.le_of_ble_eq_true rfl) ?_
          rintro _ V1 sz1 mc ms ⟨rfl, P1, L1, hs1⟩ -
          have hV1 : ∀ a, SA a → V1 a = V0 a := fun a ha => (hs1.2.2.1 a ha).trans (hV a ha)
          obtain ⟨hro1, hca1, -⟩ := id (h0.kept (hV1 ro hSr) (hV1 ca hSc))
          refine WE.stp (WSE.of hs1) ?_
          obtain ⟨n4, F4, hW4⟩ := hs1.1.raw (hc j (by omega))
          have hru1 := hru.scr (s := pr) (z := Z f * Z (c2 j)) rfl (fun i hi => (hpc i (by omega)).symm)
          refine aw_aload_n dX2_lessMultiple_43 (by rfl) (Or.inr ⟨_, rfl⟩) ?_
          refine aw_get fX2_11 dX2_lessMultiple_44 (by assumption) (by rfl) ?_
          refine aw_iload dX2_lessMultiple_47 (by rfl) ?_
          refine aw_aaldZ (t0 := 5) (j) (by rfl) dX2_lessMultiple_49 (by assumption) (by omega) (by omega) (by omega) ?_
          refine aw_aload dX2_lessMultiple_50 (by rfl) (Or.inr ⟨_, rfl⟩) ?_
          refine aw_iconstZ dX2_lessMultiple_52 ?_
          refine aw_callv vX2_43 dX2_lessMultiple_53 hW4.1 (w_plus d hs1.1 (f := -1) (hc j (by omega)) hpw (hpc j (by omega)).symm (Or.inr rfl) (by rw [upF_ne _ _ (hpc j (by omega)).symm, he1]; exact (hSm j (by omega) (by omega)).1) (by rw [upF_self, hef, he2]; exact (hSm j (by omega) (by omega)).2.2)) (by rfl) (by rfl) (by omega) (Nat.le_of_ble_eq_true rfl) ?_
          rintro _ V2 sz2 mc2 ms2 ⟨rfl, P2, L2, hs2⟩ -
          refine WE.stp (WSE.of hs2) ?_
          have hru2 := hru1.up (z := upF Z pr (Z f * Z (c2 j)) (c j) + -1 * upF Z pr (Z f * Z (c2 j)) pr) (by omega) (fun i hi => hci i j (by omega) (by omega) (by omega)) (by rw [upF_self, upF_ne _ _ (hpc j (by omega)).symm, he1, hef, he2]; omega)
          refine aw_iincZ dX2_lessMultiple_56 (by rfl) (by decide) ?_
          refine aw_goto (tgt := 3) dX2_lessMultiple_59 (by decide) ?_
          refine aw_pk [6, 0, 1, 2, 3, 4, 5] (by rfl) ?_
          rw [show ((j : Int) + 1) = ((j + 1 : Nat) : Int) by omega]
          first
          | exact lm_loop g d h0 h02 hc hc2 hci h12 hfc hfp hpc hpc2 hfw hpw hSr hSc hSr2 hSc2 hw hSf hSm x (j + 1) (by omega) (by omega) hs2.1 (fun a ha => (hs2.2.2.1 a ha).trans (hV1 a ha)) hru2
          | exact lm_loop g d h0 h02 hc hc2 hci h12 hfc hfp hpc hpc2 hfw hpw hSr hSc hSr2 hSc2 hw hSf hSm x (j + 1) (by omega) (by omega) h hV hruS
theorem w_lessMultiple {g : GX} {ws : List Nat} {SA : Nat → Prop} {V : AH} {sz : Nat} {Z : Nat → Int} {P L : Nat → Nat} (d : Nat) {ro ca n ro2 ca2 n2 w fr f pr : Nat} {c c2 : Nat → Nat} (h : WG g ws SA V sz Z P L) (hr : RowV g V ro ca n c) (hr2 : RowV g V ro2 ca2 n2 c2) (hc : ∀ j, j < n → c j ∈ ws) (hc2 : ∀ j, j < n2 → c2 j ∈ ws) (hci : ∀ i j, i < n → j < n → i ≠ j → c i ≠ c j) (h12 : ∀ i j, i < n → j < n2 → c i ≠ c2 j) (hfc : ∀ j, j < n → f ≠ c j) (hfp : f ≠ pr) (hpc : ∀ j, j < n → pr ≠ c j) (hpc2 : ∀ j, j < n2 → pr ≠ c2 j) (hfw : f ∈ ws) (hpw : pr ∈ ws) (hSr : SA ro) (hSc : SA ca) (hSr2 : SA ro2) (hSc2 : SA ca2) (hw : fr ≤ w ∧ w ≤ n ∧ w ≤ n2) (hSf : Sm (Z f)) (hSm : ∀ j, fr ≤ j → j < w → Sm (Z (c j)) ∧ Sm (Z (c2 j)) ∧ Sm (Z f * Z (c2 j))) : AMet g mX2_lessMultiple (d + 4) [.ref ro, .ref f, .ref ro2, .int (iZ fr), .int (iZ w), .ref pr] V sz (WE g ws SA E0 V sz L (fun r _ Z' => r = none ∧ RU Z Z' c fr w (fun j => Z (c j) - Z f * Z (c2 j)) (fun x => x = pr))) := by
  obtain ⟨x, hx⟩ : ∃ x, fr + x = w := ⟨w - fr, by omega⟩
  refine AMet.of rfl rfl (Nat.le_of_ble_eq_true rfl) ?_
  show AW g mX2_lessMultiple (d + 4) 0 [(0, .ref ro), (1, .ref f), (2, .ref ro2), (3, .int (iZ fr)), (4, .int (iZ w)), (5, .ref pr)] [] V sz _
  refine aw_iload_n dX2_lessMultiple_0 (by rfl) ?_
  refine aw_istore dX2_lessMultiple_1 (by decide) ?_
  refine aw_pk [6, 0, 1, 2, 3, 4, 5] (by rfl) ?_
  exact lm_loop g d hr hr2 hc hc2 hci h12 hfc hfp hpc hpc2 hfw hpw hSr hSc hSr2 hSc2 hw hSf hSm x fr hx (by omega) h (fun _ _ => rfl) RU.nil

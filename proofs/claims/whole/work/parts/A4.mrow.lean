/-! ===== the reference: takesTableRow; a STAIR that rows are held against ===== -/
def rowZ (zs : Nat → Int) (N : Nat → Int) (i n : Nat) : Nat → Int := fun q => if 450 ≤ q ∧ q < 450 + n then N (5 * i + (q - 450)) else zs q
theorem rowZ.up {zs N : Nat → Int} {i j : Nat} : upF (rowZ zs N i j) (450 + j) (N (5 * i + j)) = rowZ zs N i (j + 1) := by
  funext q
  unfold upF rowZ
  by_cases e : q = 450 + j
  · rw [if_pos e, if_pos (by omega), e, show 450 + j - 450 = j by omega]
  · rw [if_neg e]
    by_cases e2 : 450 ≤ q ∧ q < 450 + j
    · rw [if_pos e2, if_pos (by omega)]
    · rw [if_neg e2, if_neg (by omega)]
theorem rowZ.nil {zs N : Nat → Int} {i : Nat} : rowZ zs N i 0 = zs := by funext q; unfold rowZ; rw [if_neg (by omega)]
theorem rowZ.at {zs N : Nat → Int} {i j : Nat} (hj : j < 5) : rowZ zs N i 5 (450 + j) = N (5 * i + j) := by unfold rowZ; rw [if_pos (by omega), show 450 + j - 450 = j by omega]
theorem rowZ.ne {zs N : Nat → Int} {i q : Nat} (hq : ¬ (450 ≤ q ∧ q < 455)) : rowZ zs N i 5 q = zs q := by unfold rowZ; rw [if_neg (by omega)]
abbrev mX6_takesTableRow : MI := (yX6_takesTableRow, cX6_takesTableRow, 4, none, noX)
theorem dX6_takesTableRow_0 : decode cX6_takesTableRow 0 = .ok (.iconst 0, 1) := by decide +kernel
theorem dX6_takesTableRow_1 : decode cX6_takesTableRow 1 = .ok (.istore_n 3, 1) := by decide +kernel
theorem dX6_takesTableRow_2 : decode cX6_takesTableRow 2 = .ok (.iload_n 3, 1) := by decide +kernel
theorem dX6_takesTableRow_3 : decode cX6_takesTableRow 3 = .ok (.iconst 5, 1) := by decide +kernel
theorem dX6_takesTableRow_4 : decode cX6_takesTableRow 4 = .ok (.if_icmp .ge 26, 3) := by decide +kernel
theorem dX6_takesTableRow_7 : decode cX6_takesTableRow 7 = .ok (.aload_n 0, 1) := by decide +kernel
theorem dX6_takesTableRow_8 : decode cX6_takesTableRow 8 = .ok (.sipush 450, 3) := by decide +kernel
theorem dX6_takesTableRow_11 : decode cX6_takesTableRow 11 = .ok (.iload_n 3, 1) := by decide +kernel
theorem dX6_takesTableRow_12 : decode cX6_takesTableRow 12 = .ok (.iadd, 1) := by decide +kernel
theorem dX6_takesTableRow_13 : decode cX6_takesTableRow 13 = .ok (.aload_n 0, 1) := by decide +kernel
theorem dX6_takesTableRow_14 : decode cX6_takesTableRow 14 = .ok (.iload_n 1, 1) := by decide +kernel
theorem dX6_takesTableRow_15 : decode cX6_takesTableRow 15 = .ok (.iload_n 2, 1) := by decide +kernel
theorem dX6_takesTableRow_16 : decode cX6_takesTableRow 16 = .ok (.iload_n 3, 1) := by decide +kernel
theorem dX6_takesTableRow_17 : decode cX6_takesTableRow 17 = .ok (.invokevirtual 148, 3) := by decide +kernel
theorem dX6_takesTableRow_20 : decode cX6_takesTableRow 20 = .ok (.i2l, 1) := by decide +kernel
theorem dX6_takesTableRow_21 : decode cX6_takesTableRow 21 = .ok (.invokevirtual 83, 3) := by decide +kernel
theorem dX6_takesTableRow_24 : decode cX6_takesTableRow 24 = .ok (.iinc 3 1, 3) := by decide +kernel
theorem dX6_takesTableRow_27 : decode cX6_takesTableRow 27 = .ok (.goto (-25), 3) := by decide +kernel
theorem dX6_takesTableRow_30 : decode cX6_takesTableRow 30 = .ok (.return_, 1) := by decide +kernel
theorem tr_loop (d : Nat) {g : GX} {V0 : AH} {mo sz u i : Nat} {rk kn ar ac : Int} {zs : Nat → Int} {S : TSt} (hT0 : RTb g mo V0 S) (hu : u < 12) (hi : i < 5) (hNb : ∀ k, k < 25 → -1000 ≤ S.N u k ∧ S.N u k ≤ 1000) : ∀ (y j : Nat), j + y = 5 → ∀ {V : AH}, V mo = some (moO mo rk kn ar ac) → MN g mo V (rowZ zs (S.N u) i j) → (∀ a, ¬ EN mo a → V a = V0 a) → AW g mX6_takesTableRow (d + 1) 2 [(3, .int (iZ j)), (0, .ref mo), (1, .int (iZ u)), (2, .int (iZ i))] [] V sz (VX V0 sz (EN mo) (fun q V' => none = q ∧ MN g mo V' (rowZ zs (S.N u) i 5)))
  | 0, j, hy, V, hmo, hM, hV => by
    refine aw_iload_n dX6_takesTableRow_2 (by rfl) ?_
    refine aw_iconstZ dX6_takesTableRow_3 ?_
    refine aw_icmp_geZ (tgt := 30) dX6_takesTableRow_4 (by decide) (by omega) (by omega) (fun hc_4 => ?_) (fun hc_4 => ?_)
    · refine aw_ret dX6_takesTableRow_30 rfl ?_
      obtain rfl : j = 5 := by omega
      exact ⟨rfl, rfl, rfl, hV, rfl, hM⟩
    · exact absurd hc_4 (by omega)
  | y + 1, j, hy, V, hmo, hM, hV => by
    have IH := fun j hj => @tr_loop d g V0 mo sz u i rk kn ar ac zs S hT0 hu hi hNb y j hj
    refine aw_iload_n dX6_takesTableRow_2 (by rfl) ?_
    refine aw_iconstZ dX6_takesTableRow_3 ?_
    refine aw_icmp_geZ (tgt := 30) dX6_takesTableRow_4 (by decide) (by omega) (by omega) (fun hc_4 => ?_) (fun hc_4 => ?_)
    · exact absurd hc_4 (by omega)
    · refine aw_aload_n dX6_takesTableRow_7 (by rfl) (Or.inr ⟨_, rfl⟩) ?_
      refine aw_sipushZ dX6_takesTableRow_8 (by decide) ?_
      refine aw_iload_n dX6_takesTableRow_11 (by rfl) ?_
      refine aw_iaddZ dX6_takesTableRow_12 ?_
      refine aw_topi (y := ((450 + j : Nat) : Int)) (by omega) ?_
      refine aw_aload_n dX6_takesTableRow_13 (by rfl) (Or.inr ⟨_, rfl⟩) ?_
      refine aw_iload_n dX6_takesTableRow_14 (by rfl) ?_
      refine aw_iload_n dX6_takesTableRow_15 (by rfl) ?_
      refine aw_iload_n dX6_takesTableRow_16 (by rfl) ?_
      refine aw_callv vX6_148 dX6_takesTableRow_17 hmo (m_at3 g d (t := u) (i := i) (j := j) hmo (hT0.kept (fun a h1 h2 => hV a (by unfold EN; omega))) hu hi (by omega)) (by rfl) (by rfl) (by omega) (Nat.le_of_ble_eq_true rfl) ?_
      rintro _ _ _ _ _ ⟨rfl, rfl, rfl, rfl, rfl⟩ -
      refine q0 ?_
      refine aw_i2lZ dX6_takesTableRow_20 (by have := hNb (5 * i + j) (by omega); omega) ?_
      refine aw_callv vX6_83 dX6_takesTableRow_21 hmo (m_becomes g d (c := 450 + j) (v := S.N u (5 * i + j)) ⟨_, _, ar, ac, hmo⟩ hM (by omega) (by have := hNb (5 * i + j) (by omega); omega)) (by rfl) (by rfl) (by omega) (Nat.le_of_ble_eq_true rfl) ?_
      rintro _ V1 _ _ _ ⟨rfl, rfl, rfl, hE1, rfl, hM1⟩ -
      refine q0 ?_
      refine aw_iincZ dX6_takesTableRow_24 (by rfl) (by decide) ?_
      refine aw_goto (tgt := 2) dX6_takesTableRow_27 (by decide) ?_
      rw [show ((j : Int) + 1) = ((j + 1 : Nat) : Int) by omega]
      refine aw_pk [3, 0, 1, 2] (by rfl) ?_
      exact IH (j + 1) (by omega) ((hE1 mo (by unfold EN; omega)).trans hmo) (by rw [← rowZ.up]; exact hM1) (fun a ha => (hE1 a ha).trans (hV a ha))
theorem m_takesTableRow (g : GX) (d : Nat) {V0 : AH} {mo sz u i : Nat} {rk kn ar ac : Int} {zs : Nat → Int} {S : TSt} (hmo : V0 mo = some (moO mo rk kn ar ac)) (hM : MN g mo V0 zs) (hT0 : RTb g mo V0 S) (hu : u < 12) (hi : i < 5) (hNb : ∀ k, k < 25 → -1000 ≤ S.N u k ∧ S.N u k ≤ 1000) : AMet g mX6_takesTableRow (d + 1) [.ref mo, .int (iZ u), .int (iZ i)] V0 sz (VX V0 sz (EN mo) (fun q V' => none = q ∧ MN g mo V' (rowZ zs (S.N u) i 5))) := by
  refine AMet.of rfl rfl (Nat.le_of_ble_eq_true rfl) ?_
  show AW g mX6_takesTableRow (d + 1) 0 [(0, .ref mo), (1, .int (iZ u)), (2, .int (iZ i))] [] V0 sz _
  refine aw_iconstZ dX6_takesTableRow_0 ?_
  refine aw_istore_n dX6_takesTableRow_1 (by decide) ?_
  refine aw_pk [3, 0, 1, 2] (by rfl) ?_
  exact tr_loop d hT0 hu hi hNb 5 0 (by omega) hmo (by rw [show ((0 : Nat)) = 0 from rfl, rowZ.nil]; exact hM) (fun _ _ => rfl)
theorem rc_sm : SmM (1000 * (1 + 10 * TM10) ^ 5) := by
  unfold SmM
  decide +kernel
/-- the stair's rows, when a table's row is held against them -/
theorem rcp_of {zs z' : Nat → Int} {N : Mat} {n r κ : Nat} {l lk : Nat → Nat} (hst : Stair (CMx r zs) (r + κ) 15 (lcx r l lk)) (hl5 : ∀ i, i < r → l i < 5) (hsp : SpEq (GTx N) n (CMx r zs) (r + κ) 15) (hN : ∀ i j, i < n → j < 5 → ab (N i j) ≤ 1000) (hn : r + κ ≤ 10) (hz : ∀ x, x < 150 → z' x = zs x) (hrow : ∀ j, j < 5 → ab (z' (450 + j)) ≤ 1000) : RcP z' r l 1000 (10 * TM10) := by
  obtain ⟨hpS, -, -⟩ := cm_parts hst hl5
  have hr : r ≤ 5 := by
    rcases Nat.lt_or_ge 5 r with h | h
    · have h1 := hpS.1.le_l 5 h
      have h2 := hl5 5 h
      omega
    · exact h
  have e : ∀ i j, i < r → j < 15 → z' (15 * i + j) = BMx 0 15 zs i j := fun i j hi hj => by
    unfold BMx
    rw [hz _ (by omega), Nat.zero_add]
  refine ⟨⟨fun i hi => ⟨hl5 i hi, ?_, fun j hj => ?_⟩, hpS.1.2⟩, fun i hi => ?_, fun i j hi hj => ?_, hrow, by omega, by have := tm10; omega⟩
  · show z' (15 * i + l i) ≠ 0
    rw [e i _ hi (by have := hl5 i hi; omega)]
    exact (hpS.1.1 i hi).2.1
  · show z' (15 * i + j) = 0
    rw [e i _ hi (by have := hl5 i hi; omega)]
    exact (hpS.1.1 i hi).2.2 j hj
  · rw [e i _ hi (by have := hl5 i hi; omega)]
    exact hpS.2.1 i hi
  · have := hst.bdm (tu_lbm hN) hsp (by omega) (i := i) (by omega) (j := j) (by omega)
    rw [cm_s hi, ← hz _ (by omega)] at this
    exact this

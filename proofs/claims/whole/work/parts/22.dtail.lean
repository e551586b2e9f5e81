/-! ===== Desk.divideLong: behind its loop ===== -/
theorem mg_eq0 {F : Nat → Int} : ∀ {n : Nat}, (∀ k, k < n → 0 ≤ F k ∧ F k < 2147483648) → mg 2147483648 F n = 0 → ∀ k, k < n → F k = 0
  | 0, _, _, k, hk => absurd hk (by omega)
  | n + 1, h, h0, k, hk => by
    have h1 := (mg_bd (show (0 : Int) < 2147483648 by omega) (F := F) (n := n) (fun k hk => h k (by omega))).1
    have h2 := h n (by omega)
    have hp := pw_pos (show (0 : Int) < 2147483648 by omega) n
    simp only [mg] at h0
    have h3 : 0 ≤ F n * 2147483648 ^ n := Int.mul_nonneg h2.1 (by omega)
    have h4 : F n * 2147483648 ^ n = 0 := by omega
    have h5 : F n = 0 := by
      rcases Int.mul_eq_zero.mp h4 with h | h
      · exact h
      · omega
    by_cases hq : k = n
    · subst hq; exact h5
    · exact mg_eq0 (n := n) (fun k hk => h k (by omega)) (by omega) k (by omega)
theorem chk_loop (g : GX) (d : Nat) {V : AH} {sz dk r dv on gr sm fa pr' nr pr Lr n : Nat} {sr : Int} {U : Nat → Int} (hdk : V dk = some (dkO r dv on gr sm fa pr')) (hR : Whl g V r sr nr pr Lr U) (hn : n ≤ Lr) : ∀ (i k : Nat), k + i = n → (∀ j, j < k → U j = 0) → AW g mX0_divideLong (d + 3) 149 [(7, .int (iZ k)), (4, .int (iZ n)), (0, .ref dk)] [] V sz (Ex (some (.int (iZ (if mg 2147483648 U n = 0 then 1 else 0)))) V sz 0 0)
  | 0, k, hi, hz => by
    obtain rfl : n = k := by omega
    obtain ⟨hr1, hr2, hr3, hr4, hr5, hr6, hU⟩ := id hR
    refine aw_iload dX0_divideLong_149 (by rfl) ?_
    refine aw_iload dX0_divideLong_151 (by rfl) ?_
    refine aw_icmp_geZ (tgt := 177) dX0_divideLong_153 (by decide) (by omega) (by omega) (fun hc_153 => ?_) (fun hc_153 => ?_)
    · refine aw_iconstZ dX0_divideLong_177 ?_
      refine aw_iret dX0_divideLong_178 rfl (by rfl) ?_
      exact ⟨by rw [mg_all0 hz, if_pos rfl], rfl, rfl, rfl, rfl⟩
    · exact absurd hc_153 (by omega)
  | i + 1, k, hi, hz => by
    obtain ⟨hr1, hr2, hr3, hr4, hr5, hr6, hU⟩ := id hR
    refine aw_iload dX0_divideLong_149 (by rfl) ?_
    refine aw_iload dX0_divideLong_151 (by rfl) ?_
    refine aw_icmp_geZ (tgt := 177) dX0_divideLong_153 (by decide) (by omega) (by omega) (fun hc_153 => ?_) (fun hc_153 => ?_)
    · exact absurd hc_153 (by omega)
    · have hUk := hU k (by omega)
      refine aw_aload_n dX0_divideLong_156 (by rfl) (Or.inr ⟨_, rfl⟩) ?_
      refine aw_get fX0_12 dX0_divideLong_157 (by assumption) (by rfl) ?_
      refine aw_get fX0_67 dX0_divideLong_160 (by assumption) (by rfl) ?_
      refine aw_iload dX0_divideLong_163 (by rfl) ?_
      refine aw_ialdZ (k) dX0_divideLong_165 (by assumption) (by omega) (by omega) (by omega) ?_
      refine aw_if_eqZ (tgt := 171) dX0_divideLong_166 (by decide) (by omega) (fun hc_166 => ?_) (fun hc_166 => ?_)
      · refine aw_iincZ dX0_divideLong_171 (by rfl) (by decide) ?_
        refine aw_goto (tgt := 149) dX0_divideLong_174 (by decide) ?_
        refine aw_pk [7, 4, 0] (by rfl) ?_
        rw [show ((k : Int) + 1) = ((k + 1 : Nat) : Int) by omega]
        exact chk_loop g d hdk hR hn i (k + 1) (by omega) (fun j hj => by
          by_cases hq : j = k
          · subst hq; exact hc_166
          · exact hz j (by omega))
      · refine aw_iconstZ dX0_divideLong_169 ?_
        refine aw_iret dX0_divideLong_170 rfl (by rfl) ?_
        refine ⟨?_, rfl, rfl, rfl, rfl⟩
        rw [if_neg (fun h => hc_166 (mg_eq0 (fun k hk => hU k (by omega)) h k (by omega)))]
theorem dl_tail (g : GX) (d : Nat) {V : AH} {sz dk r dv on gr sm fa pr' qq nr pr Lr nq pq Lq n N : Nat} {sr sq : Int} {U Q : Nat → Int} {Qc : AQ} (hdk : V dk = some (dkO r dv on gr sm fa pr')) (hR : Whl g V r sr nr pr Lr U) (hQ : Whl g V qq sq nq pq Lq Q) (hn : n ≤ Lr) (hNq : N ≤ Lq) (hkq : dk ≠ qq) (hrq : r ≠ qq) (hqr : qq ≠ pr) (hQ2 : Qc (some (.int (iZ (if mg 2147483648 U n = 0 then 1 else 0)))) (AHu V qq (whO (if trimN Q N = 0 then 0 else sq) (trimN Q N) pq)) sz 0 0) : AW g mX0_divideLong (d + 3) 136 [(4, .int (iZ n)), (5, .int (iZ N)), (0, .ref dk), (3, .ref qq)] [] V sz Qc := by
  obtain ⟨hr1, hr2, hr3, hr4, hr5, hr6, hU⟩ := id hR
  obtain ⟨hq1', hq2', hq3', hq4', hq5', hq6', hQt⟩ := id hQ
  have hQ1 : Whl g (AHu V qq (whO sq N pq)) qq sq N pq Lq Q := hQ.set hNq
  refine aw_aload_n dX0_divideLong_136 (by rfl) (Or.inr ⟨_, rfl⟩) ?_
  refine aw_iload dX0_divideLong_137 (by rfl) ?_
  refine aw_put fX0_64 dX0_divideLong_139 (by assumption) (by rfl) (by rfl) (Nat.le_of_ble_eq_true rfl) ?_
  show AW g mX0_divideLong (d + 3) _ _ _ (AHu V qq (whO sq N pq)) _ _
  have hq1 : (AHu V qq (whO sq N pq)) qq = some (whO sq N pq) := AHu_self _ _ _
  refine aw_aload_n dX0_divideLong_142 (by rfl) (Or.inr ⟨_, rfl⟩) ?_
  refine aw_callv vX0_93 dX0_divideLong_143 (by assumption) (t_trim g (d + 2) hQ1) (by rfl) (by rfl) (by omega) (Nat.le_of_ble_eq_true rfl) ?_
  rintro _ _ _ _ _ ⟨rfl, rfl, rfl, rfl, rfl⟩ -
  refine aw_iconstZ dX0_divideLong_146 ?_
  refine aw_istore dX0_divideLong_147 (by decide) ?_
  refine aw_pk [7, 4, 0] (by rfl) ?_
  have hdk2 : (AHu (AHu V qq (whO sq N pq)) qq (whO (if trimN Q N = 0 then 0 else sq) (trimN Q N) pq)) dk = some (dkO r dv on gr sm fa pr') := by rw [AHu_ne hkq, AHu_ne hkq]; exact hdk
  have hR2 : Whl g (AHu (AHu V qq (whO sq N pq)) qq (whO (if trimN Q N = 0 then 0 else sq) (trimN Q N) pq)) r sr nr pr Lr U := (hR.kept (AHu_ne hrq) (AHu_ne hqr.symm)).kept (AHu_ne hrq) (AHu_ne hqr.symm)
  refine AW.mono (fun r2 V2 sz2 dc ds h => ?_) (chk_loop g d hdk2 hR2 hn n 0 (by omega) (fun j hj => absurd hj (by omega)))
  obtain ⟨h1, h2, h3, h4, h5⟩ := h
  subst h1 h2 h3 h4 h5
  rw [AHu_AHu]
  exact hQ2

/-! ===== the bench: finding, telling ===== -/
theorem CX.flag {g : GX} {b : Nat} {X : Nat → Prop} {V : AH} {Z : Nat → Int} {S : TSt} {A : ASt} {t : Nat} (h : CX g b X V Z S A) (ht : t = 1) : CX g b X (AHu V b (bnO b t)) Z S (t, A.h, A.w, A.m) := by
  obtain ⟨hB, hTb, hOk, hD, hT, hA, hW, hSc, hTh, hAs, hFa, hMa, hMi⟩ := h
  have hn : ∀ a, b < a → AHu V b (bnO b t) a = V a := fun a ha => AHu_ne (by omega)
  refine ⟨⟨AHu_self _ _ _, (hn _ (by omega)).trans hB.2⟩, fun q hq => (hTb q hq).kept (hn _ (by omega)) (hn _ (by omega)) (hn _ (by omega)), hOk, hD.keep (fun a _ q => hn _ (by omega)) (fun _ _ => rfl), ?_, ⟨Or.inr ht, hA.2.1, hA.2.2.1, fun q => absurd (show t = 0 from q) (by omega)⟩, ?_, ?_, ?_, hAs.kept (hn _ (by omega)) (hn _ (by omega)), hFa.kept (hn _ (by omega)) (hn _ (by omega)), ?_, ?_⟩
  · obtain ⟨ld, ρ, h1, h2⟩ := hT
    exact ⟨ld, ρ, h1.kept2 (fun a ha => hn a (by have := gs_in ha; omega)), h2⟩
  · obtain ⟨h, w, ld, ρ, h1⟩ := hW
    exact ⟨h, w, ld, ρ, h1.kept2 (fun a ha => hn a (by have := gs_in ha; omega))⟩
  · obtain ⟨h, w, ld, ρ, h1⟩ := hSc
    exact ⟨h, w, ld, ρ, h1.kept2 (fun a ha => hn a (by have := gs_in ha; omega))⟩
  · obtain ⟨h, w, ld, ρ, h1⟩ := hTh
    exact ⟨h, w, ld, ρ, h1.kept2 (fun a ha => hn a (by have := gs_in ha; omega))⟩
  · obtain ⟨F, h1⟩ := hMa
    exact ⟨F, (hn _ (by omega)).trans h1⟩
  · obtain ⟨F, h1⟩ := hMi
    exact ⟨F, (hn _ (by omega)).trans h1⟩
/-- the table of a number, or null -/
def FindV (S : TSt) (b : Nat) (t : Int) (v : Value) : Prop := (∃ n : Nat, n < 12 ∧ t = (n : Int) ∧ 0 < S.r n ∧ v = .ref (b + 647 + 3 * n)) ∨ ((∀ n : Nat, n < 12 → t = (n : Int) → S.r n = 0) ∧ v = .null)
theorem FindV.ex (S : TSt) (b : Nat) (t : Int) : ∃ v, FindV S b t v := by
  by_cases h : ∃ n : Nat, n < 12 ∧ t = (n : Int) ∧ 0 < S.r n
  · obtain ⟨n, h1, h2, h3⟩ := h
    exact ⟨_, Or.inl ⟨n, h1, h2, h3, rfl⟩⟩
  · exact ⟨.null, Or.inr ⟨fun n h1 h2 => by
      rcases Nat.eq_zero_or_pos (S.r n) with h3 | h3
      · exact h3
      · exact absurd ⟨n, h1, h2, h3⟩ h, rfl⟩⟩
abbrev mX5_isNumberOfTable : MI := (yX5_isNumberOfTable, cX5_isNumberOfTable, 1, (some FieldType.boolean), noX)
theorem dX5_isNumberOfTable_0 : decode cX5_isNumberOfTable 0 = .ok (.iload_n 0, 1) := by decide +kernel
theorem dX5_isNumberOfTable_1 : decode cX5_isNumberOfTable 1 = .ok (.ifCond .lt 13, 3) := by decide +kernel
theorem dX5_isNumberOfTable_4 : decode cX5_isNumberOfTable 4 = .ok (.iload_n 0, 1) := by decide +kernel
theorem dX5_isNumberOfTable_5 : decode cX5_isNumberOfTable 5 = .ok (.bipush 12, 2) := by decide +kernel
theorem dX5_isNumberOfTable_7 : decode cX5_isNumberOfTable 7 = .ok (.if_icmp .ge 7, 3) := by decide +kernel
theorem dX5_isNumberOfTable_10 : decode cX5_isNumberOfTable 10 = .ok (.iconst 1, 1) := by decide +kernel
theorem dX5_isNumberOfTable_11 : decode cX5_isNumberOfTable 11 = .ok (.goto 4, 3) := by decide +kernel
theorem dX5_isNumberOfTable_14 : decode cX5_isNumberOfTable 14 = .ok (.iconst 0, 1) := by decide +kernel
theorem dX5_isNumberOfTable_15 : decode cX5_isNumberOfTable 15 = .ok (.ireturn, 1) := by decide +kernel
theorem t_isNumber (g : GX) (d : Nat) {V : AH} {sz : Nat} {t : Int} (ht : R32 t) : AMet g mX5_isNumberOfTable d [.int (iZ t)] V sz (Ex (some (.int (iZ (if 0 ≤ t ∧ t < 12 then 1 else 0)))) V sz 0 0) := by
  refine AMet.of rfl rfl (Nat.le_of_ble_eq_true rfl) ?_
  show AW g mX5_isNumberOfTable d 0 [(0, .int (iZ t))] [] V sz _
  refine aw_iload_n dX5_isNumberOfTable_0 (by rfl) ?_
  refine aw_if_ltZ (tgt := 14) dX5_isNumberOfTable_1 (by decide) (by omega) (fun hc_1 => ?_) (fun hc_1 => ?_)
  · refine aw_iconstZ dX5_isNumberOfTable_14 ?_
    refine aw_iret dX5_isNumberOfTable_15 rfl (by rfl) ?_
    first | (rw [if_pos (by omega)]; exact ⟨rfl, rfl, rfl, rfl, rfl⟩) | (rw [if_neg (by omega)]; exact ⟨rfl, rfl, rfl, rfl, rfl⟩)
  · refine aw_iload_n dX5_isNumberOfTable_4 (by rfl) ?_
    refine aw_bipushZ dX5_isNumberOfTable_5 (by decide) ?_
    refine aw_icmp_geZ (tgt := 14) dX5_isNumberOfTable_7 (by decide) (by omega) (by omega) (fun hc_7 => ?_) (fun hc_7 => ?_)
    · refine aw_iconstZ dX5_isNumberOfTable_14 ?_
      refine aw_iret dX5_isNumberOfTable_15 rfl (by rfl) ?_
      first | (rw [if_pos (by omega)]; exact ⟨rfl, rfl, rfl, rfl, rfl⟩) | (rw [if_neg (by omega)]; exact ⟨rfl, rfl, rfl, rfl, rfl⟩)
    · refine aw_iconstZ dX5_isNumberOfTable_10 ?_
      refine aw_goto (tgt := 15) dX5_isNumberOfTable_11 (by decide) ?_
      refine aw_iret dX5_isNumberOfTable_15 rfl (by rfl) ?_
      first | (rw [if_pos (by omega)]; exact ⟨rfl, rfl, rfl, rfl, rfl⟩) | (rw [if_neg (by omega)]; exact ⟨rfl, rfl, rfl, rfl, rfl⟩)
abbrev mX5_find : MI := (yX5_find, cX5_find, 2, (some (FieldType.object "LatticeBench$Table")), noX)
theorem dX5_find_0 : decode cX5_find 0 = .ok (.iload_n 1, 1) := by decide +kernel
theorem dX5_find_1 : decode cX5_find 1 = .ok (.invokestatic 65, 3) := by decide +kernel
theorem dX5_find_4 : decode cX5_find 4 = .ok (.ifCond .eq 24, 3) := by decide +kernel
theorem dX5_find_7 : decode cX5_find 7 = .ok (.aload_n 0, 1) := by decide +kernel
theorem dX5_find_8 : decode cX5_find 8 = .ok (.getfield 11, 3) := by decide +kernel
theorem dX5_find_11 : decode cX5_find 11 = .ok (.iload_n 1, 1) := by decide +kernel
theorem dX5_find_12 : decode cX5_find 12 = .ok (.aaload, 1) := by decide +kernel
theorem dX5_find_13 : decode cX5_find 13 = .ok (.getfield 96, 3) := by decide +kernel
theorem dX5_find_16 : decode cX5_find 16 = .ok (.ifCond .le 12, 3) := by decide +kernel
theorem dX5_find_19 : decode cX5_find 19 = .ok (.aload_n 0, 1) := by decide +kernel
theorem dX5_find_20 : decode cX5_find 20 = .ok (.getfield 11, 3) := by decide +kernel
theorem dX5_find_23 : decode cX5_find 23 = .ok (.iload_n 1, 1) := by decide +kernel
theorem dX5_find_24 : decode cX5_find 24 = .ok (.aaload, 1) := by decide +kernel
theorem dX5_find_25 : decode cX5_find 25 = .ok (.goto 4, 3) := by decide +kernel
theorem dX5_find_28 : decode cX5_find 28 = .ok (.aconst_null, 1) := by decide +kernel
theorem dX5_find_29 : decode cX5_find 29 = .ok (.areturn, 1) := by decide +kernel
theorem t_find {g : GX} {b : Nat} {X : Nat → Prop} {V : AH} {sz : Nat} {Z : Nat → Int} {S : TSt} {A : ASt} (d : Nat) {t : Int} {v : Value} (h : CX g b X V Z S A) (ht : R32 t) (hv : FindV S b t v) : AMet g mX5_find (d + 1) [.ref b, .int (iZ t)] V sz (Ex (some v) V sz 0 0) := by
  obtain ⟨⟨hb, hb1⟩, hTb, hOk, -⟩ := id h
  rcases hv with ⟨n, hn, rfl, hr, rfl⟩ | ⟨hno, rfl⟩
  · obtain ⟨ht1, -⟩ := hTb n hn
    have hr5 := (hOk n hn).1
    refine AMet.of rfl rfl (Nat.le_of_ble_eq_true rfl) ?_
    show AW g mX5_find (d + 1) 0 [(0, .ref b), (1, .int (iZ n))] [] V sz _
    refine aw_iload_n dX5_find_0 (by rfl) ?_
    refine aw_calls sX5_65 dX5_find_1 (t_isNumber g d ht) (by rfl) (by rfl) (by omega) (Nat.le_of_ble_eq_true rfl) ?_
    rintro _ _ _ _ _ ⟨rfl, rfl, rfl, rfl, rfl⟩ -
    refine q0 ?_
    refine aw_if_eqZ (tgt := 28) dX5_find_4 (by decide) (by split <;> omega) (fun hc_4 => ?_) (fun hc_4 => ?_)
    · exact absurd hc_4 (by rw [if_pos (by omega)]; decide)
    · refine aw_aload_n dX5_find_7 (by rfl) (Or.inr ⟨_, rfl⟩) ?_
      refine aw_get fX5_11 dX5_find_8 (by assumption) (by rfl) ?_
      refine aw_iload_n dX5_find_11 (by rfl) ?_
      refine aw_aaldZ (t0 := 3) (n) (by rfl) dX5_find_12 (by assumption) (by omega) (by omega) (by omega) ?_
      refine aw_get fX5_96 dX5_find_13 (by assumption) (by rfl) ?_
      refine aw_if_leZ (tgt := 28) dX5_find_16 (by decide) (by omega) (fun hc_16 => ?_) (fun hc_16 => ?_)
      · exact absurd hc_16 (by omega)
      · refine aw_aload_n dX5_find_19 (by rfl) (Or.inr ⟨_, rfl⟩) ?_
        refine aw_get fX5_11 dX5_find_20 (by assumption) (by rfl) ?_
        refine aw_iload_n dX5_find_23 (by rfl) ?_
        refine aw_aaldZ (t0 := 3) (n) (by rfl) dX5_find_24 (by assumption) (by omega) (by omega) (by omega) ?_
        refine aw_goto (tgt := 29) dX5_find_25 (by decide) ?_
        refine aw_aret dX5_find_29 rfl (Or.inl ⟨_, rfl⟩) (Or.inr ⟨_, rfl⟩) ?_
        exact ⟨rfl, rfl, rfl, rfl, rfl⟩
  · by_cases hq : 0 ≤ t ∧ t < 12
    · obtain ⟨n, rfl⟩ : ∃ n : Nat, t = (n : Int) := ⟨t.toNat, by omega⟩
      have hr := hno n (by omega) rfl
      obtain ⟨ht1, -⟩ := hTb n (by omega)
      refine AMet.of rfl rfl (Nat.le_of_ble_eq_true rfl) ?_
      show AW g mX5_find (d + 1) 0 [(0, .ref b), (1, .int (iZ n))] [] V sz _
      refine aw_iload_n dX5_find_0 (by rfl) ?_
      refine aw_calls sX5_65 dX5_find_1 (t_isNumber g d ht) (by rfl) (by rfl) (by omega) (Nat.le_of_ble_eq_true rfl) ?_
      rintro _ _ _ _ _ ⟨rfl, rfl, rfl, rfl, rfl⟩ -
      refine q0 ?_
      refine aw_if_eqZ (tgt := 28) dX5_find_4 (by decide) (by split <;> omega) (fun hc_4 => ?_) (fun hc_4 => ?_)
      · refine aw_null dX5_find_28 ?_
        refine aw_aret dX5_find_29 rfl (Or.inl ⟨_, rfl⟩) (Or.inl rfl) ?_
        exact ⟨rfl, rfl, rfl, rfl, rfl⟩
      · refine aw_aload_n dX5_find_7 (by rfl) (Or.inr ⟨_, rfl⟩) ?_
        refine aw_get fX5_11 dX5_find_8 (by assumption) (by rfl) ?_
        refine aw_iload_n dX5_find_11 (by rfl) ?_
        refine aw_aaldZ (t0 := 3) (n) (by rfl) dX5_find_12 (by assumption) (by omega) (by omega) (by omega) ?_
        refine aw_get fX5_96 dX5_find_13 (by assumption) (by rfl) ?_
        refine aw_if_leZ (tgt := 28) dX5_find_16 (by decide) (by omega) (fun hc_16 => ?_) (fun hc_16 => ?_)
        · refine aw_null dX5_find_28 ?_
          refine aw_aret dX5_find_29 rfl (Or.inl ⟨_, rfl⟩) (Or.inl rfl) ?_
          exact ⟨rfl, rfl, rfl, rfl, rfl⟩
        · exact absurd hc_16 (by omega)
    · skip
      refine AMet.of rfl rfl (Nat.le_of_ble_eq_true rfl) ?_
      show AW g mX5_find (d + 1) 0 [(0, .ref b), (1, .int (iZ t))] [] V sz _
      refine aw_iload_n dX5_find_0 (by rfl) ?_
      refine aw_calls sX5_65 dX5_find_1 (t_isNumber g d ht) (by rfl) (by rfl) (by omega) (Nat.le_of_ble_eq_true rfl) ?_
      rintro _ _ _ _ _ ⟨rfl, rfl, rfl, rfl, rfl⟩ -
      refine q0 ?_
      refine aw_if_eqZ (tgt := 28) dX5_find_4 (by decide) (by split <;> omega) (fun hc_4 => ?_) (fun hc_4 => ?_)
      · refine aw_null dX5_find_28 ?_
        refine aw_aret dX5_find_29 rfl (Or.inl ⟨_, rfl⟩) (Or.inl rfl) ?_
        exact ⟨rfl, rfl, rfl, rfl, rfl⟩
      · exact absurd (by rw [if_neg hq]) hc_4
abbrev mX5_areAlike : MI := (yX5_areAlike, cX5_areAlike, 2, (some FieldType.boolean), noX)
theorem dX5_areAlike_0 : decode cX5_areAlike 0 = .ok (.aload_n 0, 1) := by decide +kernel
theorem dX5_areAlike_1 : decode cX5_areAlike 1 = .ok (.ifnull 22, 3) := by decide +kernel
theorem dX5_areAlike_4 : decode cX5_areAlike 4 = .ok (.aload_n 1, 1) := by decide +kernel
theorem dX5_areAlike_5 : decode cX5_areAlike 5 = .ok (.ifnull 18, 3) := by decide +kernel
theorem dX5_areAlike_8 : decode cX5_areAlike 8 = .ok (.aload_n 0, 1) := by decide +kernel
theorem dX5_areAlike_9 : decode cX5_areAlike 9 = .ok (.getfield 79, 3) := by decide +kernel
theorem dX5_areAlike_12 : decode cX5_areAlike 12 = .ok (.aload_n 1, 1) := by decide +kernel
theorem dX5_areAlike_13 : decode cX5_areAlike 13 = .ok (.getfield 79, 3) := by decide +kernel
theorem dX5_areAlike_16 : decode cX5_areAlike 16 = .ok (.if_icmp .ne 7, 3) := by decide +kernel
theorem dX5_areAlike_19 : decode cX5_areAlike 19 = .ok (.iconst 1, 1) := by decide +kernel
theorem dX5_areAlike_20 : decode cX5_areAlike 20 = .ok (.goto 4, 3) := by decide +kernel
theorem dX5_areAlike_23 : decode cX5_areAlike 23 = .ok (.iconst 0, 1) := by decide +kernel
theorem dX5_areAlike_24 : decode cX5_areAlike 24 = .ok (.ireturn, 1) := by decide +kernel
theorem t_areAlike {g : GX} {b : Nat} {X : Nat → Prop} {V : AH} {sz : Nat} {Z : Nat → Int} {S : TSt} {A : ASt} (d : Nat) {t1 t2 : Int} {v1 v2 : Value} {q : Int} (h : CX g b X V Z S A) (h1 : FindV S b t1 v1) (h2 : FindV S b t2 v2) (hq : (q = 1 ∧ ∃ n m : Nat, n < 12 ∧ m < 12 ∧ t1 = (n : Int) ∧ t2 = (m : Int) ∧ 0 < S.r n ∧ 0 < S.r m ∧ S.c n = S.c m) ∨ (q = 0 ∧ ¬ ∃ n m : Nat, n < 12 ∧ m < 12 ∧ t1 = (n : Int) ∧ t2 = (m : Int) ∧ 0 < S.r n ∧ 0 < S.r m ∧ S.c n = S.c m)) : AMet g mX5_areAlike d [v1, v2] V sz (Ex (some (.int (iZ q))) V sz 0 0) := by
  obtain ⟨-, hTb, hOk, -⟩ := id h
  rcases h1 with ⟨n, hn, rfl, hr, rfl⟩ | ⟨hno, rfl⟩
  · rcases h2 with ⟨m, hm, rfl, hr2, rfl⟩ | ⟨hno2, rfl⟩
    · obtain ⟨ha, -⟩ := hTb n hn
      obtain ⟨hb, -⟩ := hTb m hm
      have hc1 := (hOk n hn).2.1
      have hc2 := (hOk m hm).2.1
      refine AMet.of rfl rfl (Nat.le_of_ble_eq_true rfl) ?_
      show AW g mX5_areAlike d 0 [(0, .ref (b + 647 + 3 * n)), (1, .ref (b + 647 + 3 * m))] [] V sz _
      refine aw_aload_n dX5_areAlike_0 (by rfl) (Or.inr ⟨_, rfl⟩) ?_
      refine aw_ifnull_r dX5_areAlike_1 ?_
      refine aw_aload_n dX5_areAlike_4 (by rfl) (Or.inr ⟨_, rfl⟩) ?_
      refine aw_ifnull_r dX5_areAlike_5 ?_
      refine aw_aload_n dX5_areAlike_8 (by rfl) (Or.inr ⟨_, rfl⟩) ?_
      refine aw_get fX5_79 dX5_areAlike_9 (by assumption) (by rfl) ?_
      refine aw_aload_n dX5_areAlike_12 (by rfl) (Or.inr ⟨_, rfl⟩) ?_
      refine aw_get fX5_79 dX5_areAlike_13 (by assumption) (by rfl) ?_
      refine aw_icmp_neZ (tgt := 23) dX5_areAlike_16 (by decide) (by omega) (by omega) (fun hc_16 => ?_) (fun hc_16 => ?_)
      · obtain rfl : q = 0 := by
          rcases hq with ⟨_, n', m', _, _, e1, e2, _, _, e3⟩ | ⟨q, _⟩
          · obtain rfl : n = n' := by omega
            obtain rfl : m = m' := by omega
            omega
          · exact q
        refine aw_iconstZ dX5_areAlike_23 ?_
        refine aw_iret dX5_areAlike_24 rfl (by rfl) ?_
        exact ⟨rfl, rfl, rfl, rfl, rfl⟩
      · obtain rfl : q = 1 := by
          rcases hq with ⟨q, _⟩ | ⟨_, q⟩
          · exact q
          · exact absurd ⟨n, m, hn, hm, rfl, rfl, hr, hr2, by omega⟩ q
        refine aw_iconstZ dX5_areAlike_19 ?_
        refine aw_goto (tgt := 24) dX5_areAlike_20 (by decide) ?_
        refine aw_iret dX5_areAlike_24 rfl (by rfl) ?_
        exact ⟨rfl, rfl, rfl, rfl, rfl⟩
    · obtain rfl : q = 0 := by
        rcases hq with ⟨_, n', m', _, hm', _, e, _, hr', _⟩ | ⟨q, _⟩
        · have := hno2 m' hm' e
          omega
        · exact q
      refine AMet.of rfl rfl (Nat.le_of_ble_eq_true rfl) ?_
      show AW g mX5_areAlike d 0 [(0, .ref (b + 647 + 3 * n)), (1, .null)] [] V sz _
      refine aw_aload_n dX5_areAlike_0 (by rfl) (Or.inr ⟨_, rfl⟩) ?_
      refine aw_ifnull_r dX5_areAlike_1 ?_
      refine aw_aload_n dX5_areAlike_4 (by rfl) (Or.inl rfl) ?_
      refine aw_ifnull_n (tgt := 23) dX5_areAlike_5 (by decide) ?_
      refine aw_iconstZ dX5_areAlike_23 ?_
      refine aw_iret dX5_areAlike_24 rfl (by rfl) ?_
      exact ⟨rfl, rfl, rfl, rfl, rfl⟩
  · obtain rfl : q = 0 := by
      rcases hq with ⟨_, n', m', hn', _, e, _, hr', _⟩ | ⟨q, _⟩
      · have := hno n' hn' e
        omega
      · exact q
    rcases h2 with ⟨m, hm, rfl, hr2, rfl⟩ | ⟨hno2, rfl⟩
    · skip
      refine AMet.of rfl rfl (Nat.le_of_ble_eq_true rfl) ?_
      show AW g mX5_areAlike d 0 [(0, .null), (1, .ref (b + 647 + 3 * m))] [] V sz _
      refine aw_aload_n dX5_areAlike_0 (by rfl) (Or.inl rfl) ?_
      refine aw_ifnull_n (tgt := 23) dX5_areAlike_1 (by decide) ?_
      refine aw_iconstZ dX5_areAlike_23 ?_
      refine aw_iret dX5_areAlike_24 rfl (by rfl) ?_
      exact ⟨rfl, rfl, rfl, rfl, rfl⟩
    · skip
      refine AMet.of rfl rfl (Nat.le_of_ble_eq_true rfl) ?_
      show AW g mX5_areAlike d 0 [(0, .null), (1, .null)] [] V sz _
      refine aw_aload_n dX5_areAlike_0 (by rfl) (Or.inl rfl) ?_
      refine aw_ifnull_n (tgt := 23) dX5_areAlike_1 (by decide) ?_
      refine aw_iconstZ dX5_areAlike_23 ?_
      refine aw_iret dX5_areAlike_24 rfl (by rfl) ?_
      exact ⟨rfl, rfl, rfl, rfl, rfl⟩
abbrev mX5_toldAt : MI := (yX5_toldAt, cX5_toldAt, 3, (some (FieldType.object "LatticeBench$Whole")), noX)
theorem dX5_toldAt_0 : decode cX5_toldAt 0 = .ok (.iload_n 1, 1) := by decide +kernel
theorem dX5_toldAt_1 : decode cX5_toldAt 1 = .ok (.ifCond .lt 29, 3) := by decide +kernel
theorem dX5_toldAt_4 : decode cX5_toldAt 4 = .ok (.iload_n 1, 1) := by decide +kernel
theorem dX5_toldAt_5 : decode cX5_toldAt 5 = .ok (.aload_n 0, 1) := by decide +kernel
theorem dX5_toldAt_6 : decode cX5_toldAt 6 = .ok (.getfield 27, 3) := by decide +kernel
theorem dX5_toldAt_9 : decode cX5_toldAt 9 = .ok (.getfield 111, 3) := by decide +kernel
theorem dX5_toldAt_12 : decode cX5_toldAt 12 = .ok (.if_icmp .ge 18, 3) := by decide +kernel
theorem dX5_toldAt_15 : decode cX5_toldAt 15 = .ok (.iload_n 2, 1) := by decide +kernel
theorem dX5_toldAt_16 : decode cX5_toldAt 16 = .ok (.ifCond .lt 14, 3) := by decide +kernel
theorem dX5_toldAt_19 : decode cX5_toldAt 19 = .ok (.iload_n 2, 1) := by decide +kernel
theorem dX5_toldAt_20 : decode cX5_toldAt 20 = .ok (.aload_n 0, 1) := by decide +kernel
theorem dX5_toldAt_21 : decode cX5_toldAt 21 = .ok (.getfield 27, 3) := by decide +kernel
theorem dX5_toldAt_24 : decode cX5_toldAt 24 = .ok (.getfield 114, 3) := by decide +kernel
theorem dX5_toldAt_27 : decode cX5_toldAt 27 = .ok (.if_icmp .lt 5, 3) := by decide +kernel
theorem dX5_toldAt_30 : decode cX5_toldAt 30 = .ok (.aconst_null, 1) := by decide +kernel
theorem dX5_toldAt_31 : decode cX5_toldAt 31 = .ok (.areturn, 1) := by decide +kernel
theorem dX5_toldAt_32 : decode cX5_toldAt 32 = .ok (.aload_n 0, 1) := by decide +kernel
theorem dX5_toldAt_33 : decode cX5_toldAt 33 = .ok (.getfield 27, 3) := by decide +kernel
theorem dX5_toldAt_36 : decode cX5_toldAt 36 = .ok (.getfield 141, 3) := by decide +kernel
theorem dX5_toldAt_39 : decode cX5_toldAt 39 = .ok (.iload_n 1, 1) := by decide +kernel
theorem dX5_toldAt_40 : decode cX5_toldAt 40 = .ok (.aaload, 1) := by decide +kernel
theorem dX5_toldAt_41 : decode cX5_toldAt 41 = .ok (.getfield 151, 3) := by decide +kernel
theorem dX5_toldAt_44 : decode cX5_toldAt 44 = .ok (.iload_n 2, 1) := by decide +kernel
theorem dX5_toldAt_45 : decode cX5_toldAt 45 = .ok (.aaload, 1) := by decide +kernel
theorem dX5_toldAt_46 : decode cX5_toldAt 46 = .ok (.areturn, 1) := by decide +kernel
theorem t_toldAt {g : GX} {b : Nat} {X : Nat → Prop} {V : AH} {sz : Nat} {Z : Nat → Int} {S : TSt} {A : ASt} (d : Nat) {i j : Int} {v : Value} {ld : Nat → Int} {ρ : Nat → Nat} (h : CX g b X V Z S A) (hGD : GD g V (b + 17 + 1) (GT b) A.h A.w ld ρ) (hi : R32 i) (hj : R32 j) (hv : (∃ n m : Nat, i = (n : Int) ∧ j = (m : Int) ∧ n < A.h ∧ m < A.w ∧ v = .ref ((GT b).ga (ρ n) m)) ∨ (¬ (0 ≤ i ∧ i < A.h ∧ 0 ≤ j ∧ j < A.w) ∧ v = .null)) : AMet g mX5_toldAt d [.ref b, .int (iZ i), .int (iZ j)] V sz (Ex (some v) V sz 0 0) := by
  obtain ⟨⟨hb, hb1⟩, -, -, -, -, hA, -⟩ := id h
  obtain ⟨-, hAh, hAw, -⟩ := id hA
  obtain ⟨hgd, hra, hla, hrow, hRS, hinj⟩ := id hGD
  have hgd : V (b + 17) = some (grO (b + 17 + 21) (b + 17 + 20) (b + 17 + 1) (b + 17 + 16) (b + 17 + 18) A.h A.w) := hgd
  have hra : V (b + 17 + 21) = some (aQ g 4 10 (fun i => some (ρ i))) := hra
  rcases hv with ⟨n, m, rfl, rfl, hn, hm, rfl⟩ | ⟨hno, rfl⟩
  · obtain ⟨hr1, hr2, -⟩ := hrow _ (hRS n (show n < 10 by omega))
    have hr2 : V ((GT b).ka (ρ n)) = some (aQ g 5 5 (fun j => some ((GT b).ga (ρ n) j))) := hr2
    refine AMet.of rfl rfl (Nat.le_of_ble_eq_true rfl) ?_
    show AW g mX5_toldAt d 0 [(0, .ref b), (1, .int (iZ n)), (2, .int (iZ m))] [] V sz _
    refine aw_iload_n dX5_toldAt_0 (by rfl) ?_
    refine aw_if_ltZ (tgt := 30) dX5_toldAt_1 (by decide) (by omega) (fun hc_1 => ?_) (fun hc_1 => ?_)
    · exact absurd hc_1 (by omega)
    · refine aw_iload_n dX5_toldAt_4 (by rfl) ?_
      refine aw_aload_n dX5_toldAt_5 (by rfl) (Or.inr ⟨_, rfl⟩) ?_
      refine aw_get fX5_27 dX5_toldAt_6 (by assumption) (by rfl) ?_
      refine aw_get fX5_111 dX5_toldAt_9 (by assumption) (by rfl) ?_
      refine aw_icmp_geZ (tgt := 30) dX5_toldAt_12 (by decide) (by omega) (by omega) (fun hc_12 => ?_) (fun hc_12 => ?_)
      · exact absurd hc_12 (by omega)
      · refine aw_iload_n dX5_toldAt_15 (by rfl) ?_
        refine aw_if_ltZ (tgt := 30) dX5_toldAt_16 (by decide) (by omega) (fun hc_16 => ?_) (fun hc_16 => ?_)
        · exact absurd hc_16 (by omega)
        · refine aw_iload_n dX5_toldAt_19 (by rfl) ?_
          refine aw_aload_n dX5_toldAt_20 (by rfl) (Or.inr ⟨_, rfl⟩) ?_
          refine aw_get fX5_27 dX5_toldAt_21 (by assumption) (by rfl) ?_
          refine aw_get fX5_114 dX5_toldAt_24 (by assumption) (by rfl) ?_
          refine aw_icmp_ltZ (tgt := 32) dX5_toldAt_27 (by decide) (by omega) (by omega) (fun hc_27 => ?_) (fun hc_27 => ?_)
          · refine aw_aload_n dX5_toldAt_32 (by rfl) (Or.inr ⟨_, rfl⟩) ?_
            refine aw_get fX5_27 dX5_toldAt_33 (by assumption) (by rfl) ?_
            refine aw_get fX5_141 dX5_toldAt_36 (by assumption) (by rfl) ?_
            refine aw_iload_n dX5_toldAt_39 (by rfl) ?_
            refine aw_aaldZ (t0 := 4) (n) (by rfl) dX5_toldAt_40 (by assumption) (by omega) (by omega) (by omega) ?_
            refine aw_get fX5_151 dX5_toldAt_41 (by assumption) (by rfl) ?_
            refine aw_iload_n dX5_toldAt_44 (by rfl) ?_
            refine aw_aaldZ (t0 := 5) (m) (by rfl) dX5_toldAt_45 (by assumption) (by omega) (by omega) (by omega) ?_
            refine aw_aret dX5_toldAt_46 rfl (Or.inl ⟨_, rfl⟩) (Or.inr ⟨_, rfl⟩) ?_
            exact ⟨rfl, rfl, rfl, rfl, rfl⟩
          · exact absurd (by omega) hc_27
  · skip
    refine AMet.of rfl rfl (Nat.le_of_ble_eq_true rfl) ?_
    show AW g mX5_toldAt d 0 [(0, .ref b), (1, .int (iZ i)), (2, .int (iZ j))] [] V sz _
    refine aw_iload_n dX5_toldAt_0 (by rfl) ?_
    refine aw_if_ltZ (tgt := 30) dX5_toldAt_1 (by decide) (by omega) (fun hc_1 => ?_) (fun hc_1 => ?_)
    · refine aw_null dX5_toldAt_30 ?_
      refine aw_aret dX5_toldAt_31 rfl (Or.inl ⟨_, rfl⟩) (Or.inl rfl) ?_
      exact ⟨rfl, rfl, rfl, rfl, rfl⟩
    · refine aw_iload_n dX5_toldAt_4 (by rfl) ?_
      refine aw_aload_n dX5_toldAt_5 (by rfl) (Or.inr ⟨_, rfl⟩) ?_
      refine aw_get fX5_27 dX5_toldAt_6 (by assumption) (by rfl) ?_
      refine aw_get fX5_111 dX5_toldAt_9 (by assumption) (by rfl) ?_
      refine aw_icmp_geZ (tgt := 30) dX5_toldAt_12 (by decide) (by omega) (by omega) (fun hc_12 => ?_) (fun hc_12 => ?_)
      · refine aw_null dX5_toldAt_30 ?_
        refine aw_aret dX5_toldAt_31 rfl (Or.inl ⟨_, rfl⟩) (Or.inl rfl) ?_
        exact ⟨rfl, rfl, rfl, rfl, rfl⟩
      · refine aw_iload_n dX5_toldAt_15 (by rfl) ?_
        refine aw_if_ltZ (tgt := 30) dX5_toldAt_16 (by decide) (by omega) (fun hc_16 => ?_) (fun hc_16 => ?_)
        · refine aw_null dX5_toldAt_30 ?_
          refine aw_aret dX5_toldAt_31 rfl (Or.inl ⟨_, rfl⟩) (Or.inl rfl) ?_
          exact ⟨rfl, rfl, rfl, rfl, rfl⟩
        · refine aw_iload_n dX5_toldAt_19 (by rfl) ?_
          refine aw_aload_n dX5_toldAt_20 (by rfl) (Or.inr ⟨_, rfl⟩) ?_
          refine aw_get fX5_27 dX5_toldAt_21 (by assumption) (by rfl) ?_
          refine aw_get fX5_114 dX5_toldAt_24 (by assumption) (by rfl) ?_
          refine aw_icmp_ltZ (tgt := 32) dX5_toldAt_27 (by decide) (by omega) (by omega) (fun hc_27 => ?_) (fun hc_27 => ?_)
          · exact absurd (by omega) hno
          · refine aw_null dX5_toldAt_30 ?_
            refine aw_aret dX5_toldAt_31 rfl (Or.inl ⟨_, rfl⟩) (Or.inl rfl) ?_
            exact ⟨rfl, rfl, rfl, rfl, rfl⟩

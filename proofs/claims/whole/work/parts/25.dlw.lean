/-! ===== Desk.divideLong ===== -/
theorem w_divideLong {g : GX} {ws : List Nat} {SA : Nat → Prop} {V : AH} {sz : Nat} {Z : Nat → Int} {P L : Nat → Nat} (d : Nat) {dk r dv on gr sm fa pr' qq a b : Nat} (h : WG g ws SA V sz Z P L) (ha : a ∈ ws) (hb : b ∈ ws) (hr : r ∈ ws) (hdv : dv ∈ ws) (hq : qq ∈ ws) (hra : r ≠ a) (hrb : r ≠ b) (hrd : r ≠ dv) (hrq : r ≠ qq) (hdb : dv ≠ b) (hdq : dv ≠ qq) (hSA : SA dk) (hdk : V dk = some (dkO r dv on gr sm fa pr')) (hzr : Z r = 0) (hzd : Z dv = 0) (hZb : Z b ≠ 0) (hab : ((Z b).natAbs : Int) ≤ ((Z a).natAbs : Int)) (hZa : ((Z a).natAbs : Int) < 2147483648 ^ 150) : AMet g mX0_divideLong (d + 3) [.ref dk, .ref a, .ref b, .ref qq] V sz (DLQ g ws SA V sz Z P L qq (Z a) (Z b)) := by
  obtain ⟨na, A, hA, hmA, htA⟩ := h.2.1 a ha
  obtain ⟨n, Bd, hB, hmB, htB⟩ := h.2.1 b hb
  obtain ⟨hax0, hap0, -, hna, -, hLa, hAl⟩ := id hA
  obtain ⟨hbx0, hbp0, -, hnb, -, hLb, hBl⟩ := id hB
  have hna150 : na ≤ 150 := top_le hna hAl htA (by rw [hmA]; exact hZa)
  have hn1 : 1 ≤ n := by
    have h1 := mg_zero (show (0 : Int) < 2147483648 by omega) (F := Bd) (n := n) (fun k hk => hBl k (by omega)) htB
    rcases Nat.eq_zero_or_pos n with h0 | h0
    · have := h1.mpr h0
      omega
    · exact h0
  have hnn : n ≤ na := by
    rcases Nat.lt_or_ge na n with h1 | h1
    · have := mg_len_lt (show (1 : Int) < 2147483648 by omega) (F := A) (G := Bd) (fun j hj => hAl j (by omega)) (fun j hj => hBl j (by omega)) htB h1
      omega
    · exact h1
  clear hZa hab
  obtain ⟨N, hN⟩ : ∃ N, N + n = na + 1 := ⟨na + 1 - n, by omega⟩
  have htopB : 0 < Bd (n - 1) := by
    have h1 := hBl (n - 1) (by omega)
    rcases htB with h2 | h2
    · omega
    · omega
  have hlt : ∀ w ∈ ws, w < sz := fun w hw => by
    obtain ⟨nn, FF, hWW⟩ := h.raw hw
    exact h.1.lt hWW.1
  have hltP : ∀ w ∈ ws, P w < sz := fun w hw => by
    obtain ⟨nn, FF, hWW⟩ := h.raw hw
    exact h.1.lt hWW.2.1
  refine AMet.of rfl rfl (Nat.le_of_ble_eq_true rfl) ?_
  show AW g mX0_divideLong (d + 3) 0 [(0, .ref dk), (1, .ref a), (2, .ref b), (3, .ref qq)] [] V sz _
  refine aw_aload_n dX0_divideLong_0 (by rfl) (Or.inr ⟨_, rfl⟩) ?_
  refine aw_get fX0_64 dX0_divideLong_1 (by assumption) (by rfl) ?_
  refine aw_istore dX0_divideLong_4 (by decide) ?_
  refine aw_aload_n dX0_divideLong_6 (by rfl) (Or.inr ⟨_, rfl⟩) ?_
  refine aw_get fX0_64 dX0_divideLong_7 (by assumption) (by rfl) ?_
  refine aw_iload dX0_divideLong_10 (by rfl) ?_
  refine aw_isubZ dX0_divideLong_12 ?_
  refine aw_iconstZ dX0_divideLong_13 ?_
  refine aw_iaddZ dX0_divideLong_14 ?_
  refine aw_topi (y := (N : Int)) (by omega) ?_
  refine aw_istore dX0_divideLong_15 (by decide) ?_
  refine aw_aload_n dX0_divideLong_17 (by rfl) (Or.inr ⟨_, rfl⟩) ?_
  refine aw_get fX0_67 dX0_divideLong_18 (by assumption) (by rfl) ?_
  refine aw_iload dX0_divideLong_21 (by rfl) ?_
  refine aw_iconstZ dX0_divideLong_23 ?_
  refine aw_isubZ dX0_divideLong_24 ?_
  refine aw_ialdZ (n - 1) dX0_divideLong_25 (by assumption) (by omega) (by omega) (by omega) ?_
  have hB1 := (hBl (n - 1) (by omega)).2
  refine aw_calls sX0_71 dX0_divideLong_26 (t_nlz g (d + 2) htopB hB1) (by rfl) (by rfl) (by omega) (Nat.le_of_ble_eq_true rfl) ?_
  rintro _ _ _ _ _ ⟨⟨k, hk1, hk2, rfl, hk3, hk4⟩, rfl, rfl, rfl, rfl⟩ -
  obtain ⟨sh, rfl⟩ : ∃ sh, k = sh + 1 := ⟨k - 1, by omega⟩
  have hsh : sh ≤ 30 := by omega
  refine aw_iconstZ dX0_divideLong_29 ?_
  refine aw_isubZ dX0_divideLong_30 ?_
  refine aw_topi (y := (sh : Int)) (by omega) ?_
  refine aw_istore dX0_divideLong_31 (by decide) ?_
  refine aw_aload_n dX0_divideLong_33 (by rfl) (Or.inr ⟨_, rfl⟩) ?_
  refine aw_get fX0_12 dX0_divideLong_34 (by assumption) (by rfl) ?_
  refine aw_aload_n dX0_divideLong_37 (by rfl) (Or.inr ⟨_, rfl⟩) ?_
  refine aw_get fX0_64 dX0_divideLong_38 (by assumption) (by rfl) ?_
  refine aw_iconstZ dX0_divideLong_41 ?_
  refine aw_iaddZ dX0_divideLong_42 ?_
  refine aw_topi (y := ((na + 1 : Nat) : Int)) (by omega) ?_
  obtain ⟨nr0, Fr0, hrx0, -⟩ := h.raw hr
  refine aw_callv vX0_77 dX0_divideLong_43 (by assumption) (w_makeRoom d h hr (len := na + 1) (by omega)) (by rfl) (by rfl) (by omega) (Nat.le_of_ble_eq_true rfl) ?_
  rintro _ V1 sz1 mc1 ms1 ⟨rfl, P1, L1, hs1, hl1, hk1', hf1⟩ hdm1
  have hA1 := hA.kept (hf1 a (hlt a ha) hra.symm (h.2.2.2.1 a ha r hr)) (hf1 (P a) (hltP a ha) (h.2.2.2.1 r hr a ha).symm (h.2.2.1 a ha r hr hra.symm))
  have hB1' := hB.kept (hf1 b (hlt b hb) hrb.symm (h.2.2.2.1 b hb r hr)) (hf1 (P b) (hltP b hb) (h.2.2.2.1 r hr b hb).symm (h.2.2.1 b hb r hr hrb.symm))
  rw [← (hk1' a hra.symm).1, ← (hk1' a hra.symm).2] at hA1
  rw [← (hk1' b hrb.symm).1, ← (hk1' b hrb.symm).2] at hB1'
  have hdk1 : V1 dk = some (dkO r dv on gr sm fa pr') := (hs1.2.2.1 dk hSA).trans hdk
  obtain ⟨hax, -⟩ := id hA1
  obtain ⟨hbx, -⟩ := id hB1'
  obtain ⟨nrr, Frr, hrx, -⟩ := hs1.1.raw hr
  refine aw_aload_n dX0_divideLong_46 (by rfl) (Or.inr ⟨_, rfl⟩) ?_
  refine aw_get fX0_12 dX0_divideLong_47 (by assumption) (by rfl) ?_
  refine aw_aload_n dX0_divideLong_50 (by rfl) (Or.inr ⟨_, rfl⟩) ?_
  refine aw_iload dX0_divideLong_51 (by rfl) ?_
  refine aw_aload_n dX0_divideLong_53 (by rfl) (Or.inr ⟨_, rfl⟩) ?_
  refine aw_get fX0_64 dX0_divideLong_54 (by assumption) (by rfl) ?_
  refine aw_iconstZ dX0_divideLong_57 ?_
  refine aw_iaddZ dX0_divideLong_58 ?_
  refine aw_topi (y := ((na + 1 : Nat) : Int)) (by omega) ?_
  refine aw_callv vX0_81 dX0_divideLong_59 (by assumption) (w_shifted (d + 2) hs1.1 hr ha hra hzr hA1 (len := na + 1) (sh := sh) hl1 hsh) (by rfl) (by rfl) (by omega) (Nat.le_of_ble_eq_true rfl) ?_
  rintro _ V2 _ _ _ ⟨rfl, rfl, rfl, rfl, hs2, hf2, U, cU, hU1, hU2, hU3⟩ hdm2
  have hlt1 : ∀ w ∈ ws, w < sz1 ∧ P1 w < sz1 := fun w hw => by
    obtain ⟨nn, FF, hWW⟩ := hs1.1.raw hw
    exact ⟨hs1.1.1.lt hWW.1, hs1.1.1.lt hWW.2.1⟩
  have hB2 := hB1'.kept (hf2 b (hlt1 b hb).1 hrb.symm (hs1.1.2.2.2.1 b hb r hr)) (hf2 (P1 b) (hlt1 b hb).2 (hs1.1.2.2.2.1 r hr b hb).symm (hs1.1.2.2.1 b hb r hr hrb.symm))
  have hdk2 : V2 dk = some (dkO r dv on gr sm fa pr') := (hs2.2.2.1 dk hSA).trans hdk1
  obtain ⟨ndd, Fdd, hdx, -⟩ := hs2.1.raw hdv
  refine aw_aload_n dX0_divideLong_62 (by rfl) (Or.inr ⟨_, rfl⟩) ?_
  refine aw_get fX0_18 dX0_divideLong_63 (by assumption) (by rfl) ?_
  refine aw_iload dX0_divideLong_66 (by rfl) ?_
  refine aw_callv vX0_77 dX0_divideLong_68 (by assumption) (w_makeRoom d hs2.1 hdv (len := n) (by omega)) (by rfl) (by rfl) (by omega) (Nat.le_of_ble_eq_true rfl) ?_
  rintro _ V3 sz3 mc3 ms3 ⟨rfl, P3, L3, hs3, hl3, hk3', hf3⟩ hdm3
  have hlt2 : ∀ w ∈ ws, w < sz1 ∧ P1 w < sz1 := hlt1
  have hB3 := hB2.kept (hf3 b (hlt2 b hb).1 hdb.symm (hs2.1.2.2.2.1 b hb dv hdv)) (hf3 (P1 b) (hlt2 b hb).2 (hs2.1.2.2.2.1 dv hdv b hb).symm (hs2.1.2.2.1 b hb dv hdv hdb.symm))
  rw [← (hk3' b hdb.symm).1, ← (hk3' b hdb.symm).2] at hB3
  have hU4 := hU1.kept (hf3 r (hlt2 r hr).1 hrd (hs2.1.2.2.2.1 r hr dv hdv)) (hf3 (P1 r) (hlt2 r hr).2 (hs2.1.2.2.2.1 dv hdv r hr).symm (hs2.1.2.2.1 r hr dv hdv hrd))
  rw [← (hk3' r hrd).1, ← (hk3' r hrd).2] at hU4
  have hdk3 : V3 dk = some (dkO r dv on gr sm fa pr') := (hs3.2.2.1 dk hSA).trans hdk2
  obtain ⟨hbx3, -⟩ := id hB3
  obtain ⟨ndd3, Fdd3, hdx3, -⟩ := hs3.1.raw hdv
  refine aw_aload_n dX0_divideLong_71 (by rfl) (Or.inr ⟨_, rfl⟩) ?_
  refine aw_get fX0_18 dX0_divideLong_72 (by assumption) (by rfl) ?_
  refine aw_aload_n dX0_divideLong_75 (by rfl) (Or.inr ⟨_, rfl⟩) ?_
  refine aw_iload dX0_divideLong_76 (by rfl) ?_
  refine aw_iload dX0_divideLong_78 (by rfl) ?_
  refine aw_callv vX0_81 dX0_divideLong_80 (by assumption) (w_shifted (d + 2) hs3.1 hdv hb hdb hzd hB3 (len := n) (sh := sh) hl3 hsh) (by rfl) (by rfl) (by omega) (Nat.le_of_ble_eq_true rfl) ?_
  rintro _ V4 _ _ _ ⟨rfl, rfl, rfl, rfl, hs4, hf4, Vd, cV, hV1, hV2, hV3⟩ hdm4
  have hlt3 : ∀ w ∈ ws, w < sz3 ∧ P3 w < sz3 := fun w hw => by
    obtain ⟨nn, FF, hWW⟩ := hs3.1.raw hw
    exact ⟨hs3.1.1.lt hWW.1, hs3.1.1.lt hWW.2.1⟩
  have hU5 := hU4.kept (hf4 r (hlt3 r hr).1 hrd (hs3.1.2.2.2.1 r hr dv hdv)) (hf4 (P3 r) (hlt3 r hr).2 (hs3.1.2.2.2.1 dv hdv r hr).symm (hs3.1.2.2.1 r hr dv hdv hrd))
  have hdk4 : V4 dk = some (dkO r dv on gr sm fa pr') := (hs4.2.2.1 dk hSA).trans hdk3
  obtain ⟨nqq, Fqq, hqx, -⟩ := hs4.1.raw hq
  refine aw_aload_n dX0_divideLong_83 (by rfl) (Or.inr ⟨_, rfl⟩) ?_
  refine aw_iload dX0_divideLong_84 (by rfl) ?_
  refine aw_callv vX0_77 dX0_divideLong_86 (by assumption) (w_makeRoom d hs4.1 hq (len := N) (by omega)) (by rfl) (by rfl) (by omega) (Nat.le_of_ble_eq_true rfl) ?_
  rintro _ V5 sz5 mc5 ms5 ⟨rfl, P5, L5, hs5, hl5, hk5, hf5⟩ hdm5
  have hU6 := hU5.kept (hf5 r (hlt3 r hr).1 hrq (hs4.1.2.2.2.1 r hr qq hq)) (hf5 (P3 r) (hlt3 r hr).2 (hs4.1.2.2.2.1 qq hq r hr).symm (hs4.1.2.2.1 r hr qq hq hrq))
  rw [← (hk5 r hrq).1, ← (hk5 r hrq).2] at hU6
  have hV6 := hV1.kept (hf5 dv (hlt3 dv hdv).1 hdq (hs4.1.2.2.2.1 dv hdv qq hq)) (hf5 (P3 dv) (hlt3 dv hdv).2 (hs4.1.2.2.2.1 qq hq dv hdv).symm (hs4.1.2.2.1 dv hdv qq hq hdq))
  rw [← (hk5 dv hdq).1, ← (hk5 dv hdq).2] at hV6
  have hdk5 : V5 dk = some (dkO r dv on gr sm fa pr') := (hs5.2.2.1 dk hSA).trans hdk4
  obtain ⟨nq, Q0, hQ0⟩ := hs5.1.raw hq
  have hLr : na + 1 ≤ L5 r := by rw [(hk5 r hrq).2, (hk3' r hrd).2]; exact hl1
  have hLd : n ≤ L5 dv := by rw [(hk5 dv hdq).2]; exact hl3
  have hall := hs1.tr (hs2.tr (hs3.tr (hs4.tr hs5)))
  have FIN := dl_fin g d (A := A) (Bd := Bd) (na := na) (n := n) (N := N) (za := Z a) (zb := Z b) hs5.1 hr hdv hq hrd hrq hdq hSA hdk5 hzr hU6 hV6 hQ0 hn1 hLr hLd hl5 hN (fun k hk => hA.2.2.2.2.2.2 k (by omega)) (fun k hk => hBl k (by omega)) hmA hmB hsh hk3 hk4 hU2 hU3.1 hV2 hV3.1
  refine aw_iload dX0_divideLong_89 (by rfl) ?_
  refine aw_iconstZ dX0_divideLong_91 ?_
  refine aw_isubZ dX0_divideLong_92 ?_
  refine aw_istore dX0_divideLong_93 (by decide) ?_
  refine aw_pk [7, 4, 5, 0, 3] (by rfl) ?_
  refine AW.mono (fun r2 V' sz' dc ds hqq => ?_) FIN
  obtain ⟨e0, P', L', nq', sq', e1, e2⟩ := hqq
  refine ⟨e0, P', L', nq', sq', e1, fun z hz => ?_⟩
  have e := hall.tr (e2 z hz)
  rw [show mc1 + (0 + (mc3 + (0 + mc5))) + dc = 0 + (mc1 + (0 + (mc3 + (0 + (mc5 + dc))))) by omega, show ms1 + (0 + (ms3 + (0 + ms5))) + ds = 0 + (ms1 + (0 + (ms3 + (0 + (ms5 + ds))))) by omega] at e
  exact e

/-! ===== reachesAllOf, within ===== -/
def WinP (S : TSt) (x y : Nat) : Prop := ∀ i, i < S.r x → Span (TM (S.N y)) (S.r y) (S.c y) (TM (S.N x) i)
/-- a row of a table read into the asked row -/
theorem c_readA {g : GX} {b : Nat} {X : Nat → Prop} {V : AH} {sz : Nat} {Z : Nat → Int} {S : TSt} {A : ASt} (d : Nat) {P L : Nat → Nat} {x i : Nat} {f : Int} (hw0 : WG g (wsB b) (SAB b X) V sz Z P L) (h : CX g b X V Z S A) (hx : x < 12) (hi : i < 5) (hf : f = 1 ∨ f = -1) : AMet g mX2_read (d + 2) [.ref (b + 611), .ref (b + 647 + 3 * x), .int (iZ i), .int (iZ f)] V sz (WE g (wsB b) (SAB b X) (EB b) V sz L (fun r V' Z' => none = r ∧ CX g b X V' Z' S A ∧ (∀ a, SAB b X a → V' a = V a) ∧ (∀ j, j < S.c x → Z' (b + 613 + 2 * j) = f * S.N x (5 * i + j)) ∧ ∀ q, (∀ j, j < S.c x → q ≠ b + 613 + 2 * j) → Z' q = Z q)) := by
  obtain ⟨-, hTb, hOk, -, -, -, -, -, -, hAs, -⟩ := id h
  obtain ⟨hr5, hc5, -, hNr, -⟩ := hOk x hx
  obtain ⟨hT1, hT2, -⟩ := hTb x hx
  have hk := w_read (i := i) (f := f) d hw0 hAs hT1 hT2 hNr hf hi (fun j hj => (us_as hj).1) (fun a e _ _ hne => by show b + 613 + 2 * a ≠ b + 613 + 2 * e; omega) (sab_r (by omega)) (sab_r (by omega)) (tb_sab hx).1 (tb_sab hx).2.1 ⟨by omega, hc5⟩
  refine hk.mono (fun r V' sz' mc ms q => ?_)
  obtain ⟨Z', P', L', ⟨e, hru⟩, hs⟩ := q
  have hkv : ∀ a, SAB b X a → V' a = V a := fun a ha => hs.2.2.1 a ha (fun z => z)
  exact ⟨Z', P', L', ⟨e.symm, h.zs hkv (fun q hq => hru.2 q (fun z => z) (fun j _ hj => by show q ≠ b + 613 + 2 * j; omega)), hkv, fun j hj => hru.1 j (Nat.zero_le _) hj, fun q hq => hru.2 q (fun z => z) (fun j _ hj => hq j hj)⟩, hs.weak (fun _ z => z.elim)⟩
abbrev mX5_reachesAllOf : MI := (yX5_reachesAllOf, cX5_reachesAllOf, 4, (some FieldType.boolean), noX)
theorem dX5_reachesAllOf_0 : decode cX5_reachesAllOf 0 = .ok (.iconst 0, 1) := by decide +kernel
theorem dX5_reachesAllOf_1 : decode cX5_reachesAllOf 1 = .ok (.istore_n 3, 1) := by decide +kernel
theorem dX5_reachesAllOf_2 : decode cX5_reachesAllOf 2 = .ok (.iload_n 3, 1) := by decide +kernel
theorem dX5_reachesAllOf_3 : decode cX5_reachesAllOf 3 = .ok (.aload_n 2, 1) := by decide +kernel
theorem dX5_reachesAllOf_4 : decode cX5_reachesAllOf 4 = .ok (.getfield 96, 3) := by decide +kernel
theorem dX5_reachesAllOf_7 : decode cX5_reachesAllOf 7 = .ok (.if_icmp .ge 41, 3) := by decide +kernel
theorem dX5_reachesAllOf_10 : decode cX5_reachesAllOf 10 = .ok (.aload_n 0, 1) := by decide +kernel
theorem dX5_reachesAllOf_11 : decode cX5_reachesAllOf 11 = .ok (.getfield 49, 3) := by decide +kernel
theorem dX5_reachesAllOf_14 : decode cX5_reachesAllOf 14 = .ok (.aload_n 2, 1) := by decide +kernel
theorem dX5_reachesAllOf_15 : decode cX5_reachesAllOf 15 = .ok (.iload_n 3, 1) := by decide +kernel
theorem dX5_reachesAllOf_16 : decode cX5_reachesAllOf 16 = .ok (.iconst 1, 1) := by decide +kernel
theorem dX5_reachesAllOf_17 : decode cX5_reachesAllOf 17 = .ok (.invokevirtual 144, 3) := by decide +kernel
theorem dX5_reachesAllOf_20 : decode cX5_reachesAllOf 20 = .ok (.aload_n 1, 1) := by decide +kernel
theorem dX5_reachesAllOf_21 : decode cX5_reachesAllOf 21 = .ok (.aload_n 0, 1) := by decide +kernel
theorem dX5_reachesAllOf_22 : decode cX5_reachesAllOf 22 = .ok (.getfield 49, 3) := by decide +kernel
theorem dX5_reachesAllOf_25 : decode cX5_reachesAllOf 25 = .ok (.iconst 0, 1) := by decide +kernel
theorem dX5_reachesAllOf_26 : decode cX5_reachesAllOf 26 = .ok (.aload_n 1, 1) := by decide +kernel
theorem dX5_reachesAllOf_27 : decode cX5_reachesAllOf 27 = .ok (.getfield 111, 3) := by decide +kernel
theorem dX5_reachesAllOf_30 : decode cX5_reachesAllOf 30 = .ok (.aload_n 0, 1) := by decide +kernel
theorem dX5_reachesAllOf_31 : decode cX5_reachesAllOf 31 = .ok (.getfield 53, 3) := by decide +kernel
theorem dX5_reachesAllOf_34 : decode cX5_reachesAllOf 34 = .ok (.invokevirtual 185, 3) := by decide +kernel
theorem dX5_reachesAllOf_37 : decode cX5_reachesAllOf 37 = .ok (.ifCond .ne 5, 3) := by decide +kernel
theorem dX5_reachesAllOf_40 : decode cX5_reachesAllOf 40 = .ok (.iconst 0, 1) := by decide +kernel
theorem dX5_reachesAllOf_41 : decode cX5_reachesAllOf 41 = .ok (.ireturn, 1) := by decide +kernel
theorem dX5_reachesAllOf_42 : decode cX5_reachesAllOf 42 = .ok (.iinc 3 1, 3) := by decide +kernel
theorem dX5_reachesAllOf_45 : decode cX5_reachesAllOf 45 = .ok (.goto (-43), 3) := by decide +kernel
theorem dX5_reachesAllOf_48 : decode cX5_reachesAllOf 48 = .ok (.iconst 1, 1) := by decide +kernel
theorem dX5_reachesAllOf_49 : decode cX5_reachesAllOf 49 = .ok (.ireturn, 1) := by decide +kernel
set_option maxRecDepth 20000 in
theorem ra_loop (d : Nat) {g : GX} {b : Nat} {X : Nat → Prop} {S : TSt} {A : ASt} {x y h1 : Nat} {ld : Nat → Int} {l ρ : Nat → Nat} {V0 : AH} {Z0 : Nat → Int} {q : Int} (hx : x < 12 ∧ 0 < S.r x) (hy : y < 12 ∧ 0 < S.r y) (hc : S.c x = S.c y) (hq : (q = 1 ∧ WinP S x y) ∨ (q = 0 ∧ ¬ WinP S x y)) : ∀ (n i : Nat), i + n = S.r x → (∀ k, k < i → Span (TM (S.N y)) (S.r y) (S.c y) (TM (S.N x) k)) → ∀ {V : AH} {sz : Nat} {Z : Nat → Int} {P L : Nat → Nat}, WG g (wsB b) (SAB b X) V sz Z P L → CX g b X V Z S A → GSp g b V Z (GSc b) (TM (S.N y)) (S.r y) (S.c y) h1 ld l ρ → (∀ a, SAB b X a → V a = V0 a) → (∀ z, z < b + 613 → z ≠ (GSc b).pr → Z z = Z0 z) → AW g mX5_reachesAllOf (d + 6) 2 [(3, .int (iZ i)), (0, .ref b), (1, .ref (b + 423)), (2, .ref (b + 647 + 3 * x))] [] V sz (WE g (wsB b) (SAB b X) (EB b) V sz L (fun r V' Z' => some (.int (iZ q)) = r ∧ CX g b X V' Z' S A ∧ GSp g b V' Z' (GSc b) (TM (S.N y)) (S.r y) (S.c y) h1 ld l ρ ∧ (∀ a, SAB b X a → V' a = V0 a) ∧ ∀ z, z < b + 613 → z ≠ (GSc b).pr → Z' z = Z0 z))
  | 0, i, hn, hpre, V, sz, Z, P, L, hw0, h, hg, hV, hZ => by
    obtain ⟨⟨hb, hb1⟩, hTb, hOk, -⟩ := id h
    obtain ⟨hr5, hc5, -, hNr, -⟩ := hOk x hx.1
    obtain ⟨hr5y, hc5y, -⟩ := hOk y hy.1
    obtain ⟨hT1, -⟩ := hTb x hx.1
    have hle := hg.2.2.1.1.le_w
    refine aw_iload_n dX5_reachesAllOf_2 (by rfl) ?_
    refine aw_aload_n dX5_reachesAllOf_3 (by rfl) (Or.inr ⟨_, rfl⟩) ?_
    refine aw_get fX5_96 dX5_reachesAllOf_4 hT1 (by rfl) ?_
    refine aw_icmp_geZ (tgt := 48) dX5_reachesAllOf_7 (by decide) (by omega) (by omega) (fun hc_7 => ?_) (fun hc_7 => ?_)
    · refine aw_iconstZ dX5_reachesAllOf_48 ?_
      refine aw_iret dX5_reachesAllOf_49 rfl (by rfl) ?_
      obtain rfl : q = 1 := by
        rcases hq with ⟨z, _⟩ | ⟨_, z⟩
        · exact z
        · exact absurd (fun k hk => hpre k (by omega)) z
      exact WE.ret hw0 ⟨rfl, h, hg, hV, hZ⟩
    · exact absurd hc_7 (by omega)
  | n + 1, i, hn, hpre, V, sz, Z, P, L, hw0, h, hg, hV, hZ => by
    have IH := fun i hi hp => @ra_loop d g b X S A x y h1 ld l ρ V0 Z0 q hx hy hc hq n i hi hp
    obtain ⟨⟨hb, hb1⟩, hTb, hOk, -⟩ := id h
    obtain ⟨hr5, hc5, -, hNr, -⟩ := hOk x hx.1
    obtain ⟨hr5y, hc5y, -⟩ := hOk y hy.1
    obtain ⟨hT1, -⟩ := hTb x hx.1
    have hle := hg.2.2.1.1.le_w
    refine aw_iload_n dX5_reachesAllOf_2 (by rfl) ?_
    refine aw_aload_n dX5_reachesAllOf_3 (by rfl) (Or.inr ⟨_, rfl⟩) ?_
    refine aw_get fX5_96 dX5_reachesAllOf_4 hT1 (by rfl) ?_
    refine aw_icmp_geZ (tgt := 48) dX5_reachesAllOf_7 (by decide) (by omega) (by omega) (fun hc_7 => ?_) (fun hc_7 => ?_)
    · exact absurd hc_7 (by omega)
    · have hrow := h.2.2.2.2.2.2.2.2.2.1.1
      refine aw_aload_n dX5_reachesAllOf_10 (by rfl) (Or.inr ⟨_, rfl⟩) ?_
      refine aw_get fX5_49 dX5_reachesAllOf_11 hb (by rfl) ?_
      refine aw_aload_n dX5_reachesAllOf_14 (by rfl) (Or.inr ⟨_, rfl⟩) ?_
      refine aw_iload_n dX5_reachesAllOf_15 (by rfl) ?_
      refine aw_iconstZ dX5_reachesAllOf_16 ?_
      refine aw_callv vX5_144 dX5_reachesAllOf_17 hrow (c_readA (d + 3) (f := 1) hw0 h hx.1 (i := i) (by omega) (Or.inl rfl)) (by rfl) (by rfl) (by omega) (Nat.le_of_ble_eq_true rfl) ?_
      rintro _ V1 sz1 mc1 ms1 ⟨Z1, P1, L1, ⟨rfl, hcx1, hkv1, hrd, hot⟩, hs1⟩ -
      refine WE.stp hs1 ?_
      have hb1' := hcx1.1.1
      have hAm : ∀ a j, a < h1 → j < S.c y → AM (GSc b) Z1 ρ a j = AM (GSc b) Z ρ a j := fun a j ha hj => hot _ (fun e he q2 => by
        have h3 := gl_cell (t0 := b + 423) (mr := 6) (mc := 5) (hg.1.2.2.2.2.1 a (show a < 6 by omega)) (show j < 5 by omega)
        have h4 : (GSc b).ga (ρ a) j = (GL (b + 423) 6 5).ga (ρ a) j := rfl
        have q2 : (GSc b).ga (ρ a) j = b + 613 + 2 * e := q2
        omega)
      have hg1 : GSp g b V1 Z1 (GSc b) (TM (S.N y)) (S.r y) (S.c y) h1 ld l ρ := ⟨hg.1.kept2 (fun a ha => hkv1 a (sab_gS ha).1), hg.2.1, hg.2.2.1.cong (fun a ha j hj => hAm a j ha hj), hg.2.2.2.tr (SpEq.cong (fun a ha j hj => (hAm a j ha hj).symm))⟩
      have hgd1 : V1 (b + 423) = some (grO (b + 423 + 21) (b + 423 + 20) (b + 423 + 1) (b + 423 + 16) (b + 423 + 18) h1 (S.c y)) := hg1.1.1
      refine aw_aload_n dX5_reachesAllOf_20 (by rfl) (Or.inr ⟨_, rfl⟩) ?_
      refine aw_aload_n dX5_reachesAllOf_21 (by rfl) (Or.inr ⟨_, rfl⟩) ?_
      refine aw_get fX5_49 dX5_reachesAllOf_22 hb1' (by rfl) ?_
      refine aw_iconstZ dX5_reachesAllOf_25 ?_
      refine aw_aload_n dX5_reachesAllOf_26 (by rfl) (Or.inr ⟨_, rfl⟩) ?_
      refine aw_get fX5_111 dX5_reachesAllOf_27 hgd1 (by rfl) ?_
      refine aw_aload_n dX5_reachesAllOf_30 (by rfl) (Or.inr ⟨_, rfl⟩) ?_
      refine aw_get fX5_53 dX5_reachesAllOf_31 hb1' (by rfl) ?_
      refine aw_callv vX5_185 dX5_reachesAllOf_34 hgd1 (c_offS d (fr := 0) (to := h1) (C := 1000) hs1.1 hcx1 hg1 (hOk.tb hy.1) (by omega) ⟨by omega, by omega, by omega⟩ (by omega) (fun j hj => by rw [hrd j (by omega), Int.one_mul]; have := hNr (5 * i + j) (by omega); unfold ab; omega) (sm_off (by omega) (by omega))) (by rfl) (by rfl) (by omega) (Nat.le_of_ble_eq_true rfl) ?_
      rintro _ V2 sz2 mc2 ms2 ⟨Z2, P2, L2, ⟨hcx2, hg2, ⟨hkv2, hZ2, hAm2, -⟩, qq, hq1, hq2, -, hres⟩, hs2⟩ -
      refine WE.stp hs2 ?_
      have hin : Span (TM (S.N y)) (S.r y) (S.c y) (TM (S.N x) i) ↔ ∀ j, j < S.c y → Z2 (b + 613 + 2 * j) = 0 := by
        rw [hg1.2.2.2 (TM (S.N x) i)]
        refine off_in hg1.2.2.1 (v' := fun j => Z2 (b + 613 + 2 * j)) (q := qq) (fun j hj => ?_) (fun k hk => ?_)
        · have h5 := hq1 j hj
          rw [hrd j (by omega), Int.one_mul, Nat.sub_zero] at h5
          rw [h5]
          simp only [Nat.zero_add]
        · have h5 := hq2 k (by omega)
          simp only [Nat.zero_add] at h5
          exact h5.2
      rcases hres with ⟨hz, rfl⟩ | ⟨hz, rfl⟩
      · refine aw_if_neZ (tgt := 42) dX5_reachesAllOf_37 (by decide) (by decide) (fun _ => ?_) (fun h => absurd h (by decide))
        refine aw_iincZ dX5_reachesAllOf_42 (by rfl) (by decide) ?_
        refine aw_goto (tgt := 2) dX5_reachesAllOf_45 (by decide) ?_
        rw [show ((i : Int) + 1) = ((i + 1 : Nat) : Int) by omega]
        refine aw_pk [3, 0, 1, 2] (by rfl) ?_
        exact IH (i + 1) (by omega) (fun k hk => (Nat.lt_or_eq_of_le (Nat.le_of_lt_succ hk)).elim (hpre k) (fun e => e ▸ hin.mpr hz)) hs2.1 hcx2 hg2 (fun a ha => (hkv2 a ha).trans ((hkv1 a ha).trans (hV a ha))) (fun z h3 h4 => (hZ2 z h3 h4).trans ((hot z (fun j hj => by omega)).trans (hZ z h3 h4)))
      · refine aw_if_neZ (tgt := 42) dX5_reachesAllOf_37 (by decide) (by decide) (fun h => absurd rfl h) (fun _ => ?_)
        refine aw_iconstZ dX5_reachesAllOf_40 ?_
        refine aw_iret dX5_reachesAllOf_41 rfl (by rfl) ?_
        obtain rfl : q = 0 := by
          rcases hq with ⟨_, z⟩ | ⟨z, _⟩
          · exact absurd (hin.mp (z i (by omega))) hz
          · exact z
        exact WE.ret hs2.1 ⟨rfl, hcx2, hg2, fun a ha => (hkv2 a ha).trans ((hkv1 a ha).trans (hV a ha)), fun z h3 h4 => (hZ2 z h3 h4).trans ((hot z (fun j hj => by omega)).trans (hZ z h3 h4))⟩
theorem t_reachesAllOf (d : Nat) {g : GX} {b : Nat} {X : Nat → Prop} {S : TSt} {A : ASt} {x y h1 : Nat} {ld : Nat → Int} {l ρ : Nat → Nat} {V0 : AH} {Z0 : Nat → Int} {q : Int} (hx : x < 12 ∧ 0 < S.r x) (hy : y < 12 ∧ 0 < S.r y) (hc : S.c x = S.c y) (hq : (q = 1 ∧ WinP S x y) ∨ (q = 0 ∧ ¬ WinP S x y)) {sz : Nat} {P L : Nat → Nat} (hw0 : WG g (wsB b) (SAB b X) V0 sz Z0 P L) (h : CX g b X V0 Z0 S A) (hg : GSp g b V0 Z0 (GSc b) (TM (S.N y)) (S.r y) (S.c y) h1 ld l ρ) : AMet g mX5_reachesAllOf (d + 6) [.ref b, .ref (b + 423), .ref (b + 647 + 3 * x)] V0 sz (WE g (wsB b) (SAB b X) (EB b) V0 sz L (fun r V' Z' => some (.int (iZ q)) = r ∧ CX g b X V' Z' S A ∧ GSp g b V' Z' (GSc b) (TM (S.N y)) (S.r y) (S.c y) h1 ld l ρ ∧ (∀ a, SAB b X a → V' a = V0 a) ∧ ∀ z, z < b + 613 → z ≠ (GSc b).pr → Z' z = Z0 z)) := by
  refine AMet.of rfl rfl (Nat.le_of_ble_eq_true rfl) ?_
  show AW g mX5_reachesAllOf (d + 6) 0 [(0, .ref b), (1, .ref (b + 423)), (2, .ref (b + 647 + 3 * x))] [] V0 sz _
  refine aw_iconstZ dX5_reachesAllOf_0 ?_
  refine aw_istore_n dX5_reachesAllOf_1 (by decide) ?_
  refine aw_pk [3, 0, 1, 2] (by rfl) ?_
  exact ra_loop d hx hy hc hq (S.r x) 0 (by omega) (fun k hk => absurd hk (by omega)) hw0 h hg (fun _ _ => rfl) (fun _ _ _ => rfl)
abbrev mX5_within : MI := (yX5_within, cX5_within, 5, (some FieldType.int), noX)
theorem dX5_within_0 : decode cX5_within 0 = .ok (.aload_n 0, 1) := by decide +kernel
theorem dX5_within_1 : decode cX5_within 1 = .ok (.iload_n 1, 1) := by decide +kernel
theorem dX5_within_2 : decode cX5_within 2 = .ok (.invokevirtual 72, 3) := by decide +kernel
theorem dX5_within_5 : decode cX5_within 5 = .ok (.astore_n 3, 1) := by decide +kernel
theorem dX5_within_6 : decode cX5_within 6 = .ok (.aload_n 0, 1) := by decide +kernel
theorem dX5_within_7 : decode cX5_within 7 = .ok (.iload_n 2, 1) := by decide +kernel
theorem dX5_within_8 : decode cX5_within 8 = .ok (.invokevirtual 72, 3) := by decide +kernel
theorem dX5_within_11 : decode cX5_within 11 = .ok (.astore 4, 2) := by decide +kernel
theorem dX5_within_13 : decode cX5_within 13 = .ok (.aload_n 3, 1) := by decide +kernel
theorem dX5_within_14 : decode cX5_within 14 = .ok (.aload 4, 2) := by decide +kernel
theorem dX5_within_16 : decode cX5_within 16 = .ok (.invokestatic 137, 3) := by decide +kernel
theorem dX5_within_19 : decode cX5_within 19 = .ok (.ifCond .ne 5, 3) := by decide +kernel
theorem dX5_within_22 : decode cX5_within 22 = .ok (.iconst (-1), 1) := by decide +kernel
theorem dX5_within_23 : decode cX5_within 23 = .ok (.ireturn, 1) := by decide +kernel
theorem dX5_within_24 : decode cX5_within 24 = .ok (.aload_n 0, 1) := by decide +kernel
theorem dX5_within_25 : decode cX5_within 25 = .ok (.getfield 38, 3) := by decide +kernel
theorem dX5_within_28 : decode cX5_within 28 = .ok (.aload 4, 2) := by decide +kernel
theorem dX5_within_30 : decode cX5_within 30 = .ok (.invokevirtual 103, 3) := by decide +kernel
theorem dX5_within_33 : decode cX5_within 33 = .ok (.aload_n 0, 1) := by decide +kernel
theorem dX5_within_34 : decode cX5_within 34 = .ok (.aload_n 0, 1) := by decide +kernel
theorem dX5_within_35 : decode cX5_within 35 = .ok (.getfield 38, 3) := by decide +kernel
theorem dX5_within_38 : decode cX5_within 38 = .ok (.aload_n 3, 1) := by decide +kernel
theorem dX5_within_39 : decode cX5_within 39 = .ok (.invokevirtual 205, 3) := by decide +kernel
theorem dX5_within_42 : decode cX5_within 42 = .ok (.ifCond .eq 7, 3) := by decide +kernel
theorem dX5_within_45 : decode cX5_within 45 = .ok (.iconst 1, 1) := by decide +kernel
theorem dX5_within_46 : decode cX5_within 46 = .ok (.goto 4, 3) := by decide +kernel
theorem dX5_within_49 : decode cX5_within 49 = .ok (.iconst 0, 1) := by decide +kernel
theorem dX5_within_50 : decode cX5_within 50 = .ok (.ireturn, 1) := by decide +kernel
theorem c_within {g : GX} {b : Nat} {X : Nat → Prop} {V : AH} {sz : Nat} {Z : Nat → Int} {S : TSt} {A : ASt} (d : Nat) {t u : Int} {P L : Nat → Nat} (hw0 : WG g (wsB b) (SAB b X) V sz Z P L) (h : CX g b X V Z S A) (ht : R32 t) (hu : R32 u) : AMet g mX5_within (d + 8) [.ref b, .int (iZ t), .int (iZ u)] V sz (CE g b X V sz L (fun q S' A' => S' = S ∧ A' = A ∧ ((∃ x y : Nat, x < 12 ∧ y < 12 ∧ t = (x : Int) ∧ u = (y : Int) ∧ 0 < S.r x ∧ 0 < S.r y ∧ S.c x = S.c y ∧ (WinP S x y ∧ some (.int (iZ 1)) = q ∨ ¬ WinP S x y ∧ some (.int (iZ 0)) = q)) ∨ (¬ (∃ n m : Nat, n < 12 ∧ m < 12 ∧ t = (n : Int) ∧ u = (m : Int) ∧ 0 < S.r n ∧ 0 < S.r m ∧ S.c n = S.c m) ∧ some (.int (iZ (-1))) = q)))) := by
  obtain ⟨⟨hb, hb1⟩, hTb, hOk, -⟩ := id h
  obtain ⟨v, hv⟩ := FindV.ex S b t
  obtain ⟨v2, hv2⟩ := FindV.ex S b u
  obtain ⟨h0, w0, ld0, ρ0, hG0⟩ := h.2.2.2.2.2.2.2.1
  have hgd0 : V (b + 423) = _ := hG0.1
  rcases id hv with ⟨x, hx, rfl, hrx, rfl⟩ | ⟨hno, rfl⟩
  · rcases id hv2 with ⟨y, hy, rfl, hry, rfl⟩ | ⟨hno2, rfl⟩
    · by_cases hcc : S.c x = S.c y
      · by_cases hwin : WinP S x y
        · skip
          refine AMet.of rfl rfl (Nat.le_of_ble_eq_true rfl) ?_
          show AW g mX5_within (d + 8) 0 [(0, .ref b), (1, .int (iZ x)), (2, .int (iZ y))] [] V sz _
          refine aw_aload_n dX5_within_0 (by rfl) (Or.inr ⟨_, rfl⟩) ?_
          refine aw_iload_n dX5_within_1 (by rfl) ?_
          refine aw_callv vX5_72 dX5_within_2 hb (t_find (d + 6) h ht hv) (by rfl) (by rfl) (by omega) (Nat.le_of_ble_eq_true rfl) ?_
          rintro _ _ _ _ _ ⟨rfl, rfl, rfl, rfl, rfl⟩ -
          refine q0 ?_
          refine aw_astore_n dX5_within_5 (by decide) (Or.inr ⟨_, rfl⟩) ?_
          refine aw_aload_n dX5_within_6 (by rfl) (Or.inr ⟨_, rfl⟩) ?_
          refine aw_iload_n dX5_within_7 (by rfl) ?_
          refine aw_callv vX5_72 dX5_within_8 hb (t_find (d + 6) h hu hv2) (by rfl) (by rfl) (by omega) (Nat.le_of_ble_eq_true rfl) ?_
          rintro _ _ _ _ _ ⟨rfl, rfl, rfl, rfl, rfl⟩ -
          refine q0 ?_
          refine aw_astore dX5_within_11 (by decide) (Or.inr ⟨_, rfl⟩) ?_
          refine aw_aload_n dX5_within_13 (by rfl) (Or.inr ⟨_, rfl⟩) ?_
          refine aw_aload dX5_within_14 (by rfl) (Or.inr ⟨_, rfl⟩) ?_
          refine aw_calls sX5_137 dX5_within_16 (t_areAlike (d + 7) (q := 1) h hv hv2 (Or.inl ⟨rfl, x, y, hx, hy, rfl, rfl, hrx, hry, hcc⟩)) (by rfl) (by rfl) (by omega) (Nat.le_of_ble_eq_true rfl) ?_
          rintro _ _ _ _ _ ⟨rfl, rfl, rfl, rfl, rfl⟩ -
          refine q0 ?_
          refine aw_if_neZ (tgt := 24) dX5_within_19 (by decide) (by decide) (fun hc_19 => ?_) (fun hc_19 => ?_)
          · refine aw_aload_n dX5_within_24 (by rfl) (Or.inr ⟨_, rfl⟩) ?_
            refine aw_get fX5_38 dX5_within_25 hb (by rfl) ?_
            refine aw_aload dX5_within_28 (by rfl) (Or.inr ⟨_, rfl⟩) ?_
            refine aw_callv vX5_103 dX5_within_30 hgd0 (c_reachS d hw0 h hy) (by rfl) (by rfl) (by omega) (Nat.le_of_ble_eq_true rfl) ?_
            rintro _ V1 sz1 mc1 ms1 ⟨Z1, P1, L1, ⟨rfl, hcx1, ⟨h1, ld1, l1, ρ1, hg1⟩, -⟩, hs1⟩ -
            refine WE.stp hs1 ?_
            have hb1' := hcx1.1.1
            refine aw_aload_n dX5_within_33 (by rfl) (Or.inr ⟨_, rfl⟩) ?_
            refine aw_aload_n dX5_within_34 (by rfl) (Or.inr ⟨_, rfl⟩) ?_
            refine aw_get fX5_38 dX5_within_35 hb1' (by rfl) ?_
            refine aw_aload_n dX5_within_38 (by rfl) (Or.inr ⟨_, rfl⟩) ?_
            refine aw_callv vX5_205 dX5_within_39 hb1' (t_reachesAllOf (d + 1) (q := 1) ⟨hx, hrx⟩ ⟨hy, hry⟩ hcc (Or.inl ⟨rfl, hwin⟩) hs1.1 hcx1 hg1) (by rfl) (by rfl) (by omega) (Nat.le_of_ble_eq_true rfl) ?_
            rintro _ V2 sz2 mc2 ms2 ⟨Z2, P2, L2, ⟨rfl, hcx2, -⟩, hs2⟩ -
            refine WE.stp hs2 ?_
            refine aw_if_eqZ (tgt := 49) dX5_within_42 (by decide) (by decide) (fun hc_42 => ?_) (fun hc_42 => ?_)
            · exact absurd hc_42 (by decide)
            · refine aw_iconstZ dX5_within_45 ?_
              refine aw_goto (tgt := 50) dX5_within_46 (by decide) ?_
              refine aw_iret dX5_within_50 rfl (by rfl) ?_
              exact WE.ret hs2.1 ⟨S, A, hcx2, rfl, rfl, Or.inl ⟨x, y, hx, hy, rfl, rfl, hrx, hry, hcc, Or.inl ⟨hwin, rfl⟩⟩⟩
          · exact absurd hc_19 (by decide)
        · skip
          refine AMet.of rfl rfl (Nat.le_of_ble_eq_true rfl) ?_
          show AW g mX5_within (d + 8) 0 [(0, .ref b), (1, .int (iZ x)), (2, .int (iZ y))] [] V sz _
          refine aw_aload_n dX5_within_0 (by rfl) (Or.inr ⟨_, rfl⟩) ?_
          refine aw_iload_n dX5_within_1 (by rfl) ?_
          refine aw_callv vX5_72 dX5_within_2 hb (t_find (d + 6) h ht hv) (by rfl) (by rfl) (by omega) (Nat.le_of_ble_eq_true rfl) ?_
          rintro _ _ _ _ _ ⟨rfl, rfl, rfl, rfl, rfl⟩ -
          refine q0 ?_
          refine aw_astore_n dX5_within_5 (by decide) (Or.inr ⟨_, rfl⟩) ?_
          refine aw_aload_n dX5_within_6 (by rfl) (Or.inr ⟨_, rfl⟩) ?_
          refine aw_iload_n dX5_within_7 (by rfl) ?_
          refine aw_callv vX5_72 dX5_within_8 hb (t_find (d + 6) h hu hv2) (by rfl) (by rfl) (by omega) (Nat.le_of_ble_eq_true rfl) ?_
          rintro _ _ _ _ _ ⟨rfl, rfl, rfl, rfl, rfl⟩ -
          refine q0 ?_
          refine aw_astore dX5_within_11 (by decide) (Or.inr ⟨_, rfl⟩) ?_
          refine aw_aload_n dX5_within_13 (by rfl) (Or.inr ⟨_, rfl⟩) ?_
          refine aw_aload dX5_within_14 (by rfl) (Or.inr ⟨_, rfl⟩) ?_
          refine aw_calls sX5_137 dX5_within_16 (t_areAlike (d + 7) (q := 1) h hv hv2 (Or.inl ⟨rfl, x, y, hx, hy, rfl, rfl, hrx, hry, hcc⟩)) (by rfl) (by rfl) (by omega) (Nat.le_of_ble_eq_true rfl) ?_
          rintro _ _ _ _ _ ⟨rfl, rfl, rfl, rfl, rfl⟩ -
          refine q0 ?_
          refine aw_if_neZ (tgt := 24) dX5_within_19 (by decide) (by decide) (fun hc_19 => ?_) (fun hc_19 => ?_)
          · refine aw_aload_n dX5_within_24 (by rfl) (Or.inr ⟨_, rfl⟩) ?_
            refine aw_get fX5_38 dX5_within_25 hb (by rfl) ?_
            refine aw_aload dX5_within_28 (by rfl) (Or.inr ⟨_, rfl⟩) ?_
            refine aw_callv vX5_103 dX5_within_30 hgd0 (c_reachS d hw0 h hy) (by rfl) (by rfl) (by omega) (Nat.le_of_ble_eq_true rfl) ?_
            rintro _ V1 sz1 mc1 ms1 ⟨Z1, P1, L1, ⟨rfl, hcx1, ⟨h1, ld1, l1, ρ1, hg1⟩, -⟩, hs1⟩ -
            refine WE.stp hs1 ?_
            have hb1' := hcx1.1.1
            refine aw_aload_n dX5_within_33 (by rfl) (Or.inr ⟨_, rfl⟩) ?_
            refine aw_aload_n dX5_within_34 (by rfl) (Or.inr ⟨_, rfl⟩) ?_
            refine aw_get fX5_38 dX5_within_35 hb1' (by rfl) ?_
            refine aw_aload_n dX5_within_38 (by rfl) (Or.inr ⟨_, rfl⟩) ?_
            refine aw_callv vX5_205 dX5_within_39 hb1' (t_reachesAllOf (d + 1) (q := 0) ⟨hx, hrx⟩ ⟨hy, hry⟩ hcc (Or.inr ⟨rfl, hwin⟩) hs1.1 hcx1 hg1) (by rfl) (by rfl) (by omega) (Nat.le_of_ble_eq_true rfl) ?_
            rintro _ V2 sz2 mc2 ms2 ⟨Z2, P2, L2, ⟨rfl, hcx2, -⟩, hs2⟩ -
            refine WE.stp hs2 ?_
            refine aw_if_eqZ (tgt := 49) dX5_within_42 (by decide) (by decide) (fun hc_42 => ?_) (fun hc_42 => ?_)
            · refine aw_iconstZ dX5_within_49 ?_
              refine aw_iret dX5_within_50 rfl (by rfl) ?_
              exact WE.ret hs2.1 ⟨S, A, hcx2, rfl, rfl, Or.inl ⟨x, y, hx, hy, rfl, rfl, hrx, hry, hcc, Or.inr ⟨hwin, rfl⟩⟩⟩
            · exact absurd rfl hc_42
          · exact absurd hc_19 (by decide)
      · have hal : ¬ ∃ n m : Nat, n < 12 ∧ m < 12 ∧ ((x : Nat) : Int) = (n : Int) ∧ ((y : Nat) : Int) = (m : Int) ∧ 0 < S.r n ∧ 0 < S.r m ∧ S.c n = S.c m := fun ⟨n, k, _, _, e1, e2, _, _, e3⟩ => by
          obtain rfl : x = n := by omega
          obtain rfl : y = k := by omega
          exact hcc e3
        refine AMet.of rfl rfl (Nat.le_of_ble_eq_true rfl) ?_
        show AW g mX5_within (d + 8) 0 [(0, .ref b), (1, .int (iZ x)), (2, .int (iZ y))] [] V sz _
        refine aw_aload_n dX5_within_0 (by rfl) (Or.inr ⟨_, rfl⟩) ?_
        refine aw_iload_n dX5_within_1 (by rfl) ?_
        refine aw_callv vX5_72 dX5_within_2 hb (t_find (d + 6) h ht hv) (by rfl) (by rfl) (by omega) (Nat.le_of_ble_eq_true rfl) ?_
        rintro _ _ _ _ _ ⟨rfl, rfl, rfl, rfl, rfl⟩ -
        refine q0 ?_
        refine aw_astore_n dX5_within_5 (by decide) (Or.inr ⟨_, rfl⟩) ?_
        refine aw_aload_n dX5_within_6 (by rfl) (Or.inr ⟨_, rfl⟩) ?_
        refine aw_iload_n dX5_within_7 (by rfl) ?_
        refine aw_callv vX5_72 dX5_within_8 hb (t_find (d + 6) h hu hv2) (by rfl) (by rfl) (by omega) (Nat.le_of_ble_eq_true rfl) ?_
        rintro _ _ _ _ _ ⟨rfl, rfl, rfl, rfl, rfl⟩ -
        refine q0 ?_
        refine aw_astore dX5_within_11 (by decide) (Or.inr ⟨_, rfl⟩) ?_
        refine aw_aload_n dX5_within_13 (by rfl) (Or.inr ⟨_, rfl⟩) ?_
        refine aw_aload dX5_within_14 (by rfl) (Or.inr ⟨_, rfl⟩) ?_
        refine aw_calls sX5_137 dX5_within_16 (t_areAlike (d + 7) (q := 0) h hv hv2 (Or.inr ⟨rfl, hal⟩)) (by rfl) (by rfl) (by omega) (Nat.le_of_ble_eq_true rfl) ?_
        rintro _ _ _ _ _ ⟨rfl, rfl, rfl, rfl, rfl⟩ -
        refine q0 ?_
        refine aw_if_neZ (tgt := 24) dX5_within_19 (by decide) (by decide) (fun hc_19 => ?_) (fun hc_19 => ?_)
        · exact absurd rfl hc_19
        · refine aw_iconstZ dX5_within_22 ?_
          refine aw_iret dX5_within_23 rfl (by rfl) ?_
          exact WE.ret hw0 ⟨S, A, h, rfl, rfl, Or.inr ⟨hal, rfl⟩⟩
    · have hal : ¬ ∃ n m : Nat, n < 12 ∧ m < 12 ∧ ((x : Nat) : Int) = (n : Int) ∧ u = (m : Int) ∧ 0 < S.r n ∧ 0 < S.r m ∧ S.c n = S.c m := fun ⟨n, k, _, hk, e1, e2, _, hk2, e3⟩ => by
        have := hno2 k hk e2
        omega
      refine AMet.of rfl rfl (Nat.le_of_ble_eq_true rfl) ?_
      show AW g mX5_within (d + 8) 0 [(0, .ref b), (1, .int (iZ x)), (2, .int (iZ u))] [] V sz _
      refine aw_aload_n dX5_within_0 (by rfl) (Or.inr ⟨_, rfl⟩) ?_
      refine aw_iload_n dX5_within_1 (by rfl) ?_
      refine aw_callv vX5_72 dX5_within_2 hb (t_find (d + 6) h ht hv) (by rfl) (by rfl) (by omega) (Nat.le_of_ble_eq_true rfl) ?_
      rintro _ _ _ _ _ ⟨rfl, rfl, rfl, rfl, rfl⟩ -
      refine q0 ?_
      refine aw_astore_n dX5_within_5 (by decide) (Or.inr ⟨_, rfl⟩) ?_
      refine aw_aload_n dX5_within_6 (by rfl) (Or.inr ⟨_, rfl⟩) ?_
      refine aw_iload_n dX5_within_7 (by rfl) ?_
      refine aw_callv vX5_72 dX5_within_8 hb (t_find (d + 6) h hu hv2) (by rfl) (by rfl) (by omega) (Nat.le_of_ble_eq_true rfl) ?_
      rintro _ _ _ _ _ ⟨rfl, rfl, rfl, rfl, rfl⟩ -
      refine q0 ?_
      refine aw_astore dX5_within_11 (by decide) (Or.inl rfl) ?_
      refine aw_aload_n dX5_within_13 (by rfl) (Or.inr ⟨_, rfl⟩) ?_
      refine aw_aload dX5_within_14 (by rfl) (Or.inl rfl) ?_
      refine aw_calls sX5_137 dX5_within_16 (t_areAlike (d + 7) (q := 0) h hv hv2 (Or.inr ⟨rfl, hal⟩)) (by rfl) (by rfl) (by omega) (Nat.le_of_ble_eq_true rfl) ?_
      rintro _ _ _ _ _ ⟨rfl, rfl, rfl, rfl, rfl⟩ -
      refine q0 ?_
      refine aw_if_neZ (tgt := 24) dX5_within_19 (by decide) (by decide) (fun hc_19 => ?_) (fun hc_19 => ?_)
      · exact absurd rfl hc_19
      · refine aw_iconstZ dX5_within_22 ?_
        refine aw_iret dX5_within_23 rfl (by rfl) ?_
        exact WE.ret hw0 ⟨S, A, h, rfl, rfl, Or.inr ⟨hal, rfl⟩⟩
  · have hal : ¬ ∃ n m : Nat, n < 12 ∧ m < 12 ∧ t = (n : Int) ∧ u = (m : Int) ∧ 0 < S.r n ∧ 0 < S.r m ∧ S.c n = S.c m := fun ⟨n, k, hk, _, e1, e2, hk2, _, e3⟩ => by
      have := hno n hk e1
      omega
    rcases id hv2 with ⟨y, hy, rfl, hry, rfl⟩ | ⟨hno2, rfl⟩
    · skip
      refine AMet.of rfl rfl (Nat.le_of_ble_eq_true rfl) ?_
      show AW g mX5_within (d + 8) 0 [(0, .ref b), (1, .int (iZ t)), (2, .int (iZ y))] [] V sz _
      refine aw_aload_n dX5_within_0 (by rfl) (Or.inr ⟨_, rfl⟩) ?_
      refine aw_iload_n dX5_within_1 (by rfl) ?_
      refine aw_callv vX5_72 dX5_within_2 hb (t_find (d + 6) h ht hv) (by rfl) (by rfl) (by omega) (Nat.le_of_ble_eq_true rfl) ?_
      rintro _ _ _ _ _ ⟨rfl, rfl, rfl, rfl, rfl⟩ -
      refine q0 ?_
      refine aw_astore_n dX5_within_5 (by decide) (Or.inl rfl) ?_
      refine aw_aload_n dX5_within_6 (by rfl) (Or.inr ⟨_, rfl⟩) ?_
      refine aw_iload_n dX5_within_7 (by rfl) ?_
      refine aw_callv vX5_72 dX5_within_8 hb (t_find (d + 6) h hu hv2) (by rfl) (by rfl) (by omega) (Nat.le_of_ble_eq_true rfl) ?_
      rintro _ _ _ _ _ ⟨rfl, rfl, rfl, rfl, rfl⟩ -
      refine q0 ?_
      refine aw_astore dX5_within_11 (by decide) (Or.inr ⟨_, rfl⟩) ?_
      refine aw_aload_n dX5_within_13 (by rfl) (Or.inl rfl) ?_
      refine aw_aload dX5_within_14 (by rfl) (Or.inr ⟨_, rfl⟩) ?_
      refine aw_calls sX5_137 dX5_within_16 (t_areAlike (d + 7) (q := 0) h hv hv2 (Or.inr ⟨rfl, hal⟩)) (by rfl) (by rfl) (by omega) (Nat.le_of_ble_eq_true rfl) ?_
      rintro _ _ _ _ _ ⟨rfl, rfl, rfl, rfl, rfl⟩ -
      refine q0 ?_
      refine aw_if_neZ (tgt := 24) dX5_within_19 (by decide) (by decide) (fun hc_19 => ?_) (fun hc_19 => ?_)
      · exact absurd rfl hc_19
      · refine aw_iconstZ dX5_within_22 ?_
        refine aw_iret dX5_within_23 rfl (by rfl) ?_
        exact WE.ret hw0 ⟨S, A, h, rfl, rfl, Or.inr ⟨hal, rfl⟩⟩
    · skip
      refine AMet.of rfl rfl (Nat.le_of_ble_eq_true rfl) ?_
      show AW g mX5_within (d + 8) 0 [(0, .ref b), (1, .int (iZ t)), (2, .int (iZ u))] [] V sz _
      refine aw_aload_n dX5_within_0 (by rfl) (Or.inr ⟨_, rfl⟩) ?_
      refine aw_iload_n dX5_within_1 (by rfl) ?_
      refine aw_callv vX5_72 dX5_within_2 hb (t_find (d + 6) h ht hv) (by rfl) (by rfl) (by omega) (Nat.le_of_ble_eq_true rfl) ?_
      rintro _ _ _ _ _ ⟨rfl, rfl, rfl, rfl, rfl⟩ -
      refine q0 ?_
      refine aw_astore_n dX5_within_5 (by decide) (Or.inl rfl) ?_
      refine aw_aload_n dX5_within_6 (by rfl) (Or.inr ⟨_, rfl⟩) ?_
      refine aw_iload_n dX5_within_7 (by rfl) ?_
      refine aw_callv vX5_72 dX5_within_8 hb (t_find (d + 6) h hu hv2) (by rfl) (by rfl) (by omega) (Nat.le_of_ble_eq_true rfl) ?_
      rintro _ _ _ _ _ ⟨rfl, rfl, rfl, rfl, rfl⟩ -
      refine q0 ?_
      refine aw_astore dX5_within_11 (by decide) (Or.inl rfl) ?_
      refine aw_aload_n dX5_within_13 (by rfl) (Or.inl rfl) ?_
      refine aw_aload dX5_within_14 (by rfl) (Or.inl rfl) ?_
      refine aw_calls sX5_137 dX5_within_16 (t_areAlike (d + 7) (q := 0) h hv hv2 (Or.inr ⟨rfl, hal⟩)) (by rfl) (by rfl) (by omega) (Nat.le_of_ble_eq_true rfl) ?_
      rintro _ _ _ _ _ ⟨rfl, rfl, rfl, rfl, rfl⟩ -
      refine q0 ?_
      refine aw_if_neZ (tgt := 24) dX5_within_19 (by decide) (by decide) (fun hc_19 => ?_) (fun hc_19 => ?_)
      · exact absurd rfl hc_19
      · refine aw_iconstZ dX5_within_22 ?_
        refine aw_iret dX5_within_23 rfl (by rfl) ?_
        exact WE.ret hw0 ⟨S, A, h, rfl, rfl, Or.inr ⟨hal, rfl⟩⟩

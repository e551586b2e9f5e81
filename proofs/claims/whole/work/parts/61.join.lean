/-! ===== join ===== -/
/-- two tables' rows, one behind the other -/
abbrev JM (N M : Nat → Int) (r : Nat) : Mat := fun i j => if i < r then N (5 * i + j) else M (5 * (i - r) + j)
theorem TOK.jm {S : TSt} (h : TOK S) {x y : Nat} (hx : x < 12) (hy : y < 12) (hc : S.c x = S.c y) : ∀ i j, i < S.r x + S.r y → j < S.c x → ab (JM (S.N x) (S.N y) (S.r x) i j) ≤ 1000 := fun i j hi hj => by
  obtain ⟨h1, h2, -, h4, -⟩ := h x hx
  obtain ⟨k1, k2, -, k4, -⟩ := h y hy
  show ab (if i < S.r x then _ else _) ≤ _
  split
  · have := h4 (5 * i + j) (by omega); unfold ab; omega
  · have := k4 (5 * (i - S.r x) + j) (by omega); unfold ab; omega
theorem wide_cell {b : Nat} {ro j : Nat} (h : (GWd b).RS ro) (hj : j < 10) : b + 183 ≤ (GWd b).ga ro j ∧ (GWd b).ga ro j < b + 423 := by
  have := gl_cell (t0 := b + 159) (mr := 11) (mc := 10) h hj
  have e : (GWd b).ga ro j = (GL (b + 159) 11 10).ga ro j := rfl
  omega
abbrev mX5_join : MI := (yX5_join, cX5_join, 6, (some FieldType.int), noX)
theorem dX5_join_0 : decode cX5_join 0 = .ok (.aload_n 0, 1) := by decide +kernel
theorem dX5_join_1 : decode cX5_join 1 = .ok (.iload_n 1, 1) := by decide +kernel
theorem dX5_join_2 : decode cX5_join 2 = .ok (.invokevirtual 72, 3) := by decide +kernel
theorem dX5_join_5 : decode cX5_join 5 = .ok (.astore_n 3, 1) := by decide +kernel
theorem dX5_join_6 : decode cX5_join 6 = .ok (.aload_n 0, 1) := by decide +kernel
theorem dX5_join_7 : decode cX5_join 7 = .ok (.iload_n 2, 1) := by decide +kernel
theorem dX5_join_8 : decode cX5_join 8 = .ok (.invokevirtual 72, 3) := by decide +kernel
theorem dX5_join_11 : decode cX5_join 11 = .ok (.astore 4, 2) := by decide +kernel
theorem dX5_join_13 : decode cX5_join 13 = .ok (.aload_n 3, 1) := by decide +kernel
theorem dX5_join_14 : decode cX5_join 14 = .ok (.aload 4, 2) := by decide +kernel
theorem dX5_join_16 : decode cX5_join 16 = .ok (.invokestatic 137, 3) := by decide +kernel
theorem dX5_join_19 : decode cX5_join 19 = .ok (.ifCond .ne 5, 3) := by decide +kernel
theorem dX5_join_22 : decode cX5_join 22 = .ok (.iconst (-1), 1) := by decide +kernel
theorem dX5_join_23 : decode cX5_join 23 = .ok (.ireturn, 1) := by decide +kernel
theorem dX5_join_24 : decode cX5_join 24 = .ok (.aload_n 0, 1) := by decide +kernel
theorem dX5_join_25 : decode cX5_join 25 = .ok (.getfield 35, 3) := by decide +kernel
theorem dX5_join_28 : decode cX5_join 28 = .ok (.aload_n 3, 1) := by decide +kernel
theorem dX5_join_29 : decode cX5_join 29 = .ok (.invokevirtual 103, 3) := by decide +kernel
theorem dX5_join_32 : decode cX5_join 32 = .ok (.iconst 0, 1) := by decide +kernel
theorem dX5_join_33 : decode cX5_join 33 = .ok (.istore 5, 2) := by decide +kernel
theorem dX5_join_35 : decode cX5_join 35 = .ok (.iload 5, 2) := by decide +kernel
theorem dX5_join_37 : decode cX5_join 37 = .ok (.aload 4, 2) := by decide +kernel
theorem dX5_join_39 : decode cX5_join 39 = .ok (.getfield 96, 3) := by decide +kernel
theorem dX5_join_42 : decode cX5_join 42 = .ok (.if_icmp .ge 39, 3) := by decide +kernel
theorem dX5_join_45 : decode cX5_join 45 = .ok (.aload_n 0, 1) := by decide +kernel
theorem dX5_join_46 : decode cX5_join 46 = .ok (.getfield 35, 3) := by decide +kernel
theorem dX5_join_49 : decode cX5_join 49 = .ok (.getfield 141, 3) := by decide +kernel
theorem dX5_join_52 : decode cX5_join 52 = .ok (.aload_n 0, 1) := by decide +kernel
theorem dX5_join_53 : decode cX5_join 53 = .ok (.getfield 35, 3) := by decide +kernel
theorem dX5_join_56 : decode cX5_join 56 = .ok (.getfield 111, 3) := by decide +kernel
theorem dX5_join_59 : decode cX5_join 59 = .ok (.aaload, 1) := by decide +kernel
theorem dX5_join_60 : decode cX5_join 60 = .ok (.aload 4, 2) := by decide +kernel
theorem dX5_join_62 : decode cX5_join 62 = .ok (.iload 5, 2) := by decide +kernel
theorem dX5_join_64 : decode cX5_join 64 = .ok (.iconst 1, 1) := by decide +kernel
theorem dX5_join_65 : decode cX5_join 65 = .ok (.invokevirtual 144, 3) := by decide +kernel
theorem dX5_join_68 : decode cX5_join 68 = .ok (.aload_n 0, 1) := by decide +kernel
theorem dX5_join_69 : decode cX5_join 69 = .ok (.getfield 35, 3) := by decide +kernel
theorem dX5_join_72 : decode cX5_join 72 = .ok (.invokevirtual 200, 3) := by decide +kernel
theorem dX5_join_75 : decode cX5_join 75 = .ok (.iinc 5 1, 3) := by decide +kernel
theorem dX5_join_78 : decode cX5_join 78 = .ok (.goto (-43), 3) := by decide +kernel
theorem dX5_join_81 : decode cX5_join 81 = .ok (.aload_n 0, 1) := by decide +kernel
theorem dX5_join_82 : decode cX5_join 82 = .ok (.aload_n 0, 1) := by decide +kernel
theorem dX5_join_83 : decode cX5_join 83 = .ok (.getfield 35, 3) := by decide +kernel
theorem dX5_join_86 : decode cX5_join 86 = .ok (.iconst 0, 1) := by decide +kernel
theorem dX5_join_87 : decode cX5_join 87 = .ok (.iconst 0, 1) := by decide +kernel
theorem dX5_join_88 : decode cX5_join 88 = .ok (.invokevirtual 163, 3) := by decide +kernel
theorem dX5_join_91 : decode cX5_join 91 = .ok (.ireturn, 1) := by decide +kernel
theorem sab_ro {b ro : Nat} {X : Nat → Prop} (h : (GWd b).RS ro) : SAB b X ro ∧ SAB b X ((GWd b).ka ro) := ⟨((gst_W b X).2.2.2.1 ro h).1, ((gst_W b X).2.2.2.1 ro h).2.1⟩
set_option maxRecDepth 20000 in
theorem jn_loop (d : Nat) {g : GX} {b : Nat} {X : Nat → Prop} {S : TSt} {A : ASt} {x y : Nat} (hx : x < 12 ∧ 0 < S.r x) (hy : y < 12 ∧ 0 < S.r y) (hc : S.c x = S.c y) : ∀ (k i : Nat), i + k = S.r y → ∀ {V : AH} {sz : Nat} {Z : Nat → Int} {P L : Nat → Nat} {h1 : Nat} {ld : Nat → Int} {l ρ : Nat → Nat}, WG g (wsB b) (SAB b X) V sz Z P L → CX g b X V Z S A → GSp g b V Z (GWd b) (JM (S.N x) (S.N y) (S.r x)) (S.r x + i) (S.c x) h1 ld l ρ → AW g mX5_join (d + 8) 35 [(5, .int (iZ i)), (4, .ref (b + 647 + 3 * y)), (0, .ref b)] [] V sz (CE g b X V sz L (fun q S' A' => S' = S ∧ ∃ (h1 : Nat) (l1 : Nat → Nat) (B : Mat), Stair B h1 (S.c x) l1 ∧ SpEq (JM (S.N x) (S.N y) (S.r x)) (S.r x + S.r y) B h1 (S.c x) ∧ some (.int (iZ h1)) = q ∧ AIs A' h1 (S.c x) B))
  | 0, i, hk, V, sz, Z, P, L, h1, ld, l, ρ, hw0, h, hg => by
    obtain ⟨⟨hb, hb1⟩, hTb, hOk, hD, ⟨ldT, ρT, hGT, -⟩, hAo, -⟩ := id h
    obtain ⟨hr5, hc5, -, hNr, -⟩ := hOk x hx.1
    obtain ⟨hr5y, hc5y, -, hNry, -⟩ := hOk y hy.1
    have hTy := hTb y hy.1
    obtain ⟨hT1, hT2, hT3, -⟩ := id hTy
    obtain ⟨hG, hld, hst, hsp⟩ := id hg
    obtain ⟨wgd, wra, -, wrow, wRS, winj⟩ := id hG
    have wgd : V (b + 159) = some (grO (b + 159 + 21) (b + 159 + 20) (b + 159 + 1) (b + 159 + 16) (b + 159 + 18) h1 (S.c x)) := wgd
    have wra : V (b + 159 + 21) = some (aQ g 4 11 (fun i => some (ρ i))) := wra
    have hle := hst.1.le_w
    have hjm := hOk.jm hx.1 hy.1 hc
    refine aw_iload dX5_join_35 (by rfl) ?_
    refine aw_aload dX5_join_37 (by rfl) (Or.inr ⟨_, rfl⟩) ?_
    refine aw_get fX5_96 dX5_join_39 hT1 (by rfl) ?_
    refine aw_icmp_geZ (tgt := 81) dX5_join_42 (by decide) (by omega) (by omega) (fun hc_42 => ?_) (fun hc_42 => ?_)
    · refine aw_aload_n dX5_join_81 (by rfl) (Or.inr ⟨_, rfl⟩) ?_
      refine aw_aload_n dX5_join_82 (by rfl) (Or.inr ⟨_, rfl⟩) ?_
      refine aw_get fX5_35 dX5_join_83 hb (by rfl) ?_
      refine aw_iconstZ dX5_join_86 ?_
      refine aw_iconstZ dX5_join_87 ?_
      refine aw_callv vX5_163 dX5_join_88 hb (t_tellRows (d + 3) (fr := 0) (fc := 0) h hGT hG (by omega) (hg.sm (by omega) (fun a j ha hj => hjm a j (by omega) hj)).2 hAo hw0) (by rfl) (by rfl) (by omega) (Nat.le_of_ble_eq_true rfl) ?_
      rintro _ V2 sz2 mc2 ms2 ⟨Z2, P2, L2, ⟨S2, A2, hcx2, e2, rfl, hAI⟩, hs2⟩ -
      refine WE.stp hs2 ?_
      rw [e2] at hcx2
      refine aw_iret dX5_join_91 rfl (by rfl) ?_
      obtain rfl : i = S.r y := by omega
      exact WE.ret hs2.1 ⟨_, _, hcx2, rfl, h1, l, AM (GWd b) Z ρ, hst, hsp, rfl, by simpa using hAI⟩
    · exact absurd hc_42 (by omega)
  | k + 1, i, hk, V, sz, Z, P, L, h1, ld, l, ρ, hw0, h, hg => by
    have IH := fun i hi => @jn_loop d g b X S A x y hx hy hc k i hi
    obtain ⟨⟨hb, hb1⟩, hTb, hOk, hD, ⟨ldT, ρT, hGT, -⟩, hAo, -⟩ := id h
    obtain ⟨hr5, hc5, -, hNr, -⟩ := hOk x hx.1
    obtain ⟨hr5y, hc5y, -, hNry, -⟩ := hOk y hy.1
    have hTy := hTb y hy.1
    obtain ⟨hT1, hT2, hT3, -⟩ := id hTy
    obtain ⟨hG, hld, hst, hsp⟩ := id hg
    obtain ⟨wgd, wra, -, wrow, wRS, winj⟩ := id hG
    have wgd : V (b + 159) = some (grO (b + 159 + 21) (b + 159 + 20) (b + 159 + 1) (b + 159 + 16) (b + 159 + 18) h1 (S.c x)) := wgd
    have wra : V (b + 159 + 21) = some (aQ g 4 11 (fun i => some (ρ i))) := wra
    have hle := hst.1.le_w
    have hjm := hOk.jm hx.1 hy.1 hc
    refine aw_iload dX5_join_35 (by rfl) ?_
    refine aw_aload dX5_join_37 (by rfl) (Or.inr ⟨_, rfl⟩) ?_
    refine aw_get fX5_96 dX5_join_39 hT1 (by rfl) ?_
    refine aw_icmp_geZ (tgt := 81) dX5_join_42 (by decide) (by omega) (by omega) (fun hc_42 => ?_) (fun hc_42 => ?_)
    · exact absurd hc_42 (by omega)
    · have hRh := wRS h1 (show h1 < 11 by omega)
      have hrh := wrow _ hRh
      refine aw_aload_n dX5_join_45 (by rfl) (Or.inr ⟨_, rfl⟩) ?_
      refine aw_get fX5_35 dX5_join_46 hb (by rfl) ?_
      refine aw_get fX5_141 dX5_join_49 wgd (by rfl) ?_
      refine aw_aload_n dX5_join_52 (by rfl) (Or.inr ⟨_, rfl⟩) ?_
      refine aw_get fX5_35 dX5_join_53 hb (by rfl) ?_
      refine aw_get fX5_111 dX5_join_56 wgd (by rfl) ?_
      refine aw_aaldZ (t0 := 4) (h1) (by rfl) dX5_join_59 wra (by omega) (by omega) (by omega) ?_
      refine aw_aload dX5_join_60 (by rfl) (Or.inr ⟨_, rfl⟩) ?_
      refine aw_iload dX5_join_62 (by rfl) ?_
      refine aw_iconstZ dX5_join_64 ?_
      refine aw_callv vX5_144 dX5_join_65 hrh.1 (w_read (i := i) (f := 1) (d + 5) hw0 hrh hT1 hT2 hNry (Or.inl rfl) (by omega) (fun j hj => ((gst_W b X).2.2.2.2.1 _ hRh j hj).1.1) (fun a e ha he hne q => hne ((gst_W b X).2.2.2.2.2.1 _ _ _ _ hRh hRh ha he q).2) (sab_ro hRh).1 (sab_ro hRh).2 (tb_sab hy.1).1 (tb_sab hy.1).2.1 ⟨show S.c y ≤ 10 by omega, by omega⟩) (by rfl) (by rfl) (by omega) (Nat.le_of_ble_eq_true rfl) ?_
      rintro _ V1 sz1 mc1 ms1 ⟨Z1, P1, L1, ⟨rfl, hru⟩, hs1⟩ -
      refine WE.stp (hs1.weak (fun _ q => q.elim)) ?_
      have hkv1 : ∀ a, SAB b X a → V1 a = V a := fun a ha => hs1.2.2.1 a ha (fun q => q)
      have hG1 : GD g V1 (b + 159 + 1) (GWd b) h1 (S.c x) ld ρ := hG.kept2 (fun a ha => hkv1 a (sab_gW ha).1)
      have hot : ∀ a, a < 11 → a ≠ h1 → ∀ j, j < 10 → Z1 ((GWd b).ga (ρ a) j) = Z ((GWd b).ga (ρ a) j) := fun a ha hai j hj => hru.2 _ (fun q => q) (fun e _ he q => winj a h1 ha (show h1 < 11 by omega) hai ((gst_W b X).2.2.2.2.2.1 _ _ _ _ (wRS a ha) hRh hj (show e < 10 by omega) q).1)
      have hrw : ∀ j, j < S.c x → Z1 ((GWd b).ga (ρ h1) j) = S.N y (5 * i + j) := fun j hj => (hru.1 j (Nat.zero_le _) (by omega)).trans (Int.one_mul _)
      have hNF1 : NF (GWd b) Z Z1 := fun z h2 h3 h4 => hru.2 z (fun q => q) (fun e _ he => h4 _ hRh e (show e < 10 by omega))
      have hcx1 : CX g b X V1 Z1 S A := h.wide rfl rfl ⟨fun a ha _ => hkv1 a ha, fun z hz => hru.2 z (fun q => q) (fun e _ he q => by have := wide_cell hRh (show e < 10 by omega); rw [← q] at this; omega)⟩ ⟨_, _, _, _, hG1⟩
      have hD1 := hcx1.2.2.2.1.2.1
      have hb1' := hcx1.1.1
      have wgd1 : V1 (b + 159) = _ := hG1.1
      have hst1 : Stair (AM (GWd b) Z1 ρ) h1 (S.c x) l := hst.cong (fun a ha j hj => hot a (by omega) (by omega) j (by omega))
      have hsp1 : SpEq (JM (S.N x) (S.N y) (S.r x)) (S.r x + i) (AM (GWd b) Z1 ρ) h1 (S.c x) := hsp.tr (SpEq.cong (fun a ha j hj => (hot a (by omega) (by omega) j (by omega)).symm))
      have hsp2 : SpEq (JM (S.N x) (S.N y) (S.r x)) (S.r x + i + 1) (AM (GWd b) Z1 ρ) (h1 + 1) (S.c x) := hsp1.push (fun _ _ _ _ => rfl) (fun _ _ _ _ => rfl) (fun j hj => by
        show (if S.r x + i < S.r x then _ else S.N y (5 * (S.r x + i - S.r x) + j)) = Z1 _
        rw [if_neg (by omega), hrw j hj, show S.r x + i - S.r x = i by omega])
      refine aw_aload_n dX5_join_68 (by rfl) (Or.inr ⟨_, rfl⟩) ?_
      refine aw_get fX5_35 dX5_join_69 hb1' (by rfl) ?_
      refine aw_callv vX5_200 dX5_join_72 wgd1 (w_takeIn g (d + 1) (D := DG (b + 159)) (gso_W b X) (show h1 < 11 by omega) (show S.c x < 11 by omega) (show S.c x ≤ 10 by omega) hst1 ((lb_of (b := 1000) (by omega) (fun a j ha hj => hjm a j (by omega) hj)).eq hsp1) ((lb_of (b := 1000) (by omega) (fun a j ha hj => hjm a j (by omega) hj)).eq hsp2) (KB.one (by omega)) (c := 1000) (by omega) (fun j hj => by show ab (Z1 _) ≤ _; rw [hrw j hj]; have := hNry (5 * i + j) (by omega); unfold ab; omega) (sm_t (by omega) (by omega)) hld hs1.1 hD1 hG1) (by rfl) (by rfl) (by omega) (Nat.le_of_ble_eq_true rfl) ?_
      rintro _ V2 sz2 mc2 ms2 ⟨Z2, P2, L2, ⟨rfl, h2, ld2, l2, ρ2, hG2, hld2, hst2, hsp3, hNF2, hh2⟩, hs2⟩ -
      refine WE.stp (hs2.weak (fun a q => by have := eg_W q; exact ⟨by omega, by omega⟩)) ?_
      have hcx2 : CX g b X V2 Z2 S A := hcx1.wide rfl rfl (chg_g (by omega) (by omega) (fun a ha => by omega) hs2 hNF2) ⟨_, _, _, _, hG2⟩
      refine aw_iincZ dX5_join_75 (by rfl) (by decide) ?_
      refine aw_goto (tgt := 35) dX5_join_78 (by decide) ?_
      rw [show ((i : Int) + 1) = ((i + 1 : Nat) : Int) by omega]
      refine aw_pk [5, 4, 0] (by rfl) ?_
      exact IH (i + 1) (by omega) hs2.1 hcx2 ⟨hG2, hld2, hst2, hsp2.tr hsp3⟩
theorem c_join {g : GX} {b : Nat} {X : Nat → Prop} {V : AH} {sz : Nat} {Z : Nat → Int} {S : TSt} {A : ASt} (d : Nat) {t u : Int} {P L : Nat → Nat} (hw0 : WG g (wsB b) (SAB b X) V sz Z P L) (h : CX g b X V Z S A) (ht : R32 t) (hu : R32 u) : AMet g mX5_join (d + 8) [.ref b, .int (iZ t), .int (iZ u)] V sz (CE g b X V sz L (fun q S' A' => (∃ x y : Nat, x < 12 ∧ y < 12 ∧ t = (x : Int) ∧ u = (y : Int) ∧ 0 < S.r x ∧ 0 < S.r y ∧ S.c x = S.c y ∧ (fun q S' A' => S' = S ∧ ∃ (h1 : Nat) (l1 : Nat → Nat) (B : Mat), Stair B h1 (S.c x) l1 ∧ SpEq (JM (S.N x) (S.N y) (S.r x)) (S.r x + S.r y) B h1 (S.c x) ∧ some (.int (iZ h1)) = q ∧ AIs A' h1 (S.c x) B) q S' A') ∨ (¬ (∃ n m : Nat, n < 12 ∧ m < 12 ∧ t = (n : Int) ∧ u = (m : Int) ∧ 0 < S.r n ∧ 0 < S.r m ∧ S.c n = S.c m) ∧ some (.int (iZ (-1))) = q ∧ S' = S ∧ A' = A))) := by
  obtain ⟨⟨hb, hb1⟩, hTb, hOk, -⟩ := id h
  obtain ⟨v, hv⟩ := FindV.ex S b t
  obtain ⟨v2, hv2⟩ := FindV.ex S b u
  obtain ⟨h0, w0, ld0, ρ0, hG0⟩ := h.2.2.2.2.2.2.1
  have hgd0 : V (b + 159) = _ := hG0.1
  rcases id hv with ⟨x, hx, rfl, hrx, rfl⟩ | ⟨hno, rfl⟩
  · rcases id hv2 with ⟨y, hy, rfl, hry, rfl⟩ | ⟨hno2, rfl⟩
    · by_cases hcc : S.c x = S.c y
      · skip
        refine AMet.of rfl rfl (Nat.le_of_ble_eq_true rfl) ?_
        show AW g mX5_join (d + 8) 0 [(0, .ref b), (1, .int (iZ x)), (2, .int (iZ y))] [] V sz _
        refine aw_aload_n dX5_join_0 (by rfl) (Or.inr ⟨_, rfl⟩) ?_
        refine aw_iload_n dX5_join_1 (by rfl) ?_
        refine aw_callv vX5_72 dX5_join_2 hb (t_find (d + 6) h ht hv) (by rfl) (by rfl) (by omega) (Nat.le_of_ble_eq_true rfl) ?_
        rintro _ _ _ _ _ ⟨rfl, rfl, rfl, rfl, rfl⟩ -
        refine q0 ?_
        refine aw_astore_n dX5_join_5 (by decide) (Or.inr ⟨_, rfl⟩) ?_
        refine aw_aload_n dX5_join_6 (by rfl) (Or.inr ⟨_, rfl⟩) ?_
        refine aw_iload_n dX5_join_7 (by rfl) ?_
        refine aw_callv vX5_72 dX5_join_8 hb (t_find (d + 6) h hu hv2) (by rfl) (by rfl) (by omega) (Nat.le_of_ble_eq_true rfl) ?_
        rintro _ _ _ _ _ ⟨rfl, rfl, rfl, rfl, rfl⟩ -
        refine q0 ?_
        refine aw_astore dX5_join_11 (by decide) (Or.inr ⟨_, rfl⟩) ?_
        refine aw_aload_n dX5_join_13 (by rfl) (Or.inr ⟨_, rfl⟩) ?_
        refine aw_aload dX5_join_14 (by rfl) (Or.inr ⟨_, rfl⟩) ?_
        refine aw_calls sX5_137 dX5_join_16 (t_areAlike (d + 7) (q := 1) h hv hv2 (Or.inl ⟨rfl, x, y, hx, hy, rfl, rfl, hrx, hry, hcc⟩)) (by rfl) (by rfl) (by omega) (Nat.le_of_ble_eq_true rfl) ?_
        rintro _ _ _ _ _ ⟨rfl, rfl, rfl, rfl, rfl⟩ -
        refine q0 ?_
        refine aw_if_neZ (tgt := 24) dX5_join_19 (by decide) (by decide) (fun hc_19 => ?_) (fun hc_19 => ?_)
        · refine aw_aload_n dX5_join_24 (by rfl) (Or.inr ⟨_, rfl⟩) ?_
          refine aw_get fX5_35 dX5_join_25 hb (by rfl) ?_
          refine aw_aload_n dX5_join_28 (by rfl) (Or.inr ⟨_, rfl⟩) ?_
          refine aw_callv vX5_103 dX5_join_29 hgd0 (c_reachW d hw0 h hx) (by rfl) (by rfl) (by omega) (Nat.le_of_ble_eq_true rfl) ?_
          rintro _ V1 sz1 mc1 ms1 ⟨Z1, P1, L1, ⟨rfl, hcx1, ⟨h1, ld1, l1, ρ1, hg1⟩, -⟩, hs1⟩ -
          refine WE.stp hs1 ?_
          have hg2 : GSp g b V1 Z1 (GWd b) (JM (S.N x) (S.N y) (S.r x)) (S.r x + 0) (S.c x) h1 ld1 l1 ρ1 := ⟨hg1.1, hg1.2.1, hg1.2.2.1, (SpEq.cong (fun a ha j hj => if_pos (by omega))).tr hg1.2.2.2⟩
          have GO := (jn_loop d (A := A) (X := X) (g := g) (b := b) (S := S) (x := x) (y := y) ⟨hx, hrx⟩ ⟨hy, hry⟩ hcc (S.r y) 0 (by omega) hs1.1 hcx1 hg2).mono (Q' := CE g b X V1 sz1 L1 (fun q S' A' => (∃ x1 y1 : Nat, x1 < 12 ∧ y1 < 12 ∧ ((x : Nat) : Int) = (x1 : Int) ∧ ((y : Nat) : Int) = (y1 : Int) ∧ 0 < S.r x1 ∧ 0 < S.r y1 ∧ S.c x1 = S.c y1 ∧ (fun q S' A' => S' = S ∧ ∃ (h1 : Nat) (l1 : Nat → Nat) (B : Mat), Stair B h1 (S.c x1) l1 ∧ SpEq (JM (S.N x1) (S.N y1) (S.r x1)) (S.r x1 + S.r y1) B h1 (S.c x1) ∧ some (.int (iZ h1)) = q ∧ AIs A' h1 (S.c x1) B) q S' A') ∨ (¬ (∃ n m : Nat, n < 12 ∧ m < 12 ∧ ((x : Nat) : Int) = (n : Int) ∧ ((y : Nat) : Int) = (m : Int) ∧ 0 < S.r n ∧ 0 < S.r m ∧ S.c n = S.c m) ∧ some (.int (iZ (-1))) = q ∧ S' = S ∧ A' = A))) (fun r V' sz' dc ds z => WE.mono (fun Z' q => by obtain ⟨S', A', y1, y2⟩ := q; exact ⟨S', A', y1, Or.inl ⟨x, y, hx, hy, rfl, rfl, hrx, hry, hcc, y2⟩⟩) (fun _ q => q) z)
          refine aw_iconstZ dX5_join_32 ?_
          refine aw_istore dX5_join_33 (by decide) ?_
          refine aw_pk [5, 4, 0] (by rfl) ?_
          exact GO
        · exact absurd hc_19 (by decide)
      · have hal : ¬ ∃ n m : Nat, n < 12 ∧ m < 12 ∧ ((x : Nat) : Int) = (n : Int) ∧ ((y : Nat) : Int) = (m : Int) ∧ 0 < S.r n ∧ 0 < S.r m ∧ S.c n = S.c m := fun ⟨n, k, _, _, e1, e2, _, _, e3⟩ => by
          obtain rfl : x = n := by omega
          obtain rfl : y = k := by omega
          exact hcc e3
        refine AMet.of rfl rfl (Nat.le_of_ble_eq_true rfl) ?_
        show AW g mX5_join (d + 8) 0 [(0, .ref b), (1, .int (iZ x)), (2, .int (iZ y))] [] V sz _
        refine aw_aload_n dX5_join_0 (by rfl) (Or.inr ⟨_, rfl⟩) ?_
        refine aw_iload_n dX5_join_1 (by rfl) ?_
        refine aw_callv vX5_72 dX5_join_2 hb (t_find (d + 6) h ht hv) (by rfl) (by rfl) (by omega) (Nat.le_of_ble_eq_true rfl) ?_
        rintro _ _ _ _ _ ⟨rfl, rfl, rfl, rfl, rfl⟩ -
        refine q0 ?_
        refine aw_astore_n dX5_join_5 (by decide) (Or.inr ⟨_, rfl⟩) ?_
        refine aw_aload_n dX5_join_6 (by rfl) (Or.inr ⟨_, rfl⟩) ?_
        refine aw_iload_n dX5_join_7 (by rfl) ?_
        refine aw_callv vX5_72 dX5_join_8 hb (t_find (d + 6) h hu hv2) (by rfl) (by rfl) (by omega) (Nat.le_of_ble_eq_true rfl) ?_
        rintro _ _ _ _ _ ⟨rfl, rfl, rfl, rfl, rfl⟩ -
        refine q0 ?_
        refine aw_astore dX5_join_11 (by decide) (Or.inr ⟨_, rfl⟩) ?_
        refine aw_aload_n dX5_join_13 (by rfl) (Or.inr ⟨_, rfl⟩) ?_
        refine aw_aload dX5_join_14 (by rfl) (Or.inr ⟨_, rfl⟩) ?_
        refine aw_calls sX5_137 dX5_join_16 (t_areAlike (d + 7) (q := 0) h hv hv2 (Or.inr ⟨rfl, hal⟩)) (by rfl) (by rfl) (by omega) (Nat.le_of_ble_eq_true rfl) ?_
        rintro _ _ _ _ _ ⟨rfl, rfl, rfl, rfl, rfl⟩ -
        refine q0 ?_
        refine aw_if_neZ (tgt := 24) dX5_join_19 (by decide) (by decide) (fun hc_19 => ?_) (fun hc_19 => ?_)
        · exact absurd rfl hc_19
        · refine aw_iconstZ dX5_join_22 ?_
          refine aw_iret dX5_join_23 rfl (by rfl) ?_
          exact WE.ret hw0 ⟨S, A, h, Or.inr ⟨hal, rfl, rfl, rfl⟩⟩
    · have hal : ¬ ∃ n m : Nat, n < 12 ∧ m < 12 ∧ ((x : Nat) : Int) = (n : Int) ∧ u = (m : Int) ∧ 0 < S.r n ∧ 0 < S.r m ∧ S.c n = S.c m := fun ⟨n, k, _, hk, e1, e2, _, hk2, e3⟩ => by
        have := hno2 k hk e2
        omega
      refine AMet.of rfl rfl (Nat.le_of_ble_eq_true rfl) ?_
      show AW g mX5_join (d + 8) 0 [(0, .ref b), (1, .int (iZ x)), (2, .int (iZ u))] [] V sz _
      refine aw_aload_n dX5_join_0 (by rfl) (Or.inr ⟨_, rfl⟩) ?_
      refine aw_iload_n dX5_join_1 (by rfl) ?_
      refine aw_callv vX5_72 dX5_join_2 hb (t_find (d + 6) h ht hv) (by rfl) (by rfl) (by omega) (Nat.le_of_ble_eq_true rfl) ?_
      rintro _ _ _ _ _ ⟨rfl, rfl, rfl, rfl, rfl⟩ -
      refine q0 ?_
      refine aw_astore_n dX5_join_5 (by decide) (Or.inr ⟨_, rfl⟩) ?_
      refine aw_aload_n dX5_join_6 (by rfl) (Or.inr ⟨_, rfl⟩) ?_
      refine aw_iload_n dX5_join_7 (by rfl) ?_
      refine aw_callv vX5_72 dX5_join_8 hb (t_find (d + 6) h hu hv2) (by rfl) (by rfl) (by omega) (Nat.le_of_ble_eq_true rfl) ?_
      rintro _ _ _ _ _ ⟨rfl, rfl, rfl, rfl, rfl⟩ -
      refine q0 ?_
      refine aw_astore dX5_join_11 (by decide) (Or.inl rfl) ?_
      refine aw_aload_n dX5_join_13 (by rfl) (Or.inr ⟨_, rfl⟩) ?_
      refine aw_aload dX5_join_14 (by rfl) (Or.inl rfl) ?_
      refine aw_calls sX5_137 dX5_join_16 (t_areAlike (d + 7) (q := 0) h hv hv2 (Or.inr ⟨rfl, hal⟩)) (by rfl) (by rfl) (by omega) (Nat.le_of_ble_eq_true rfl) ?_
      rintro _ _ _ _ _ ⟨rfl, rfl, rfl, rfl, rfl⟩ -
      refine q0 ?_
      refine aw_if_neZ (tgt := 24) dX5_join_19 (by decide) (by decide) (fun hc_19 => ?_) (fun hc_19 => ?_)
      · exact absurd rfl hc_19
      · refine aw_iconstZ dX5_join_22 ?_
        refine aw_iret dX5_join_23 rfl (by rfl) ?_
        exact WE.ret hw0 ⟨S, A, h, Or.inr ⟨hal, rfl, rfl, rfl⟩⟩
  · have hal : ¬ ∃ n m : Nat, n < 12 ∧ m < 12 ∧ t = (n : Int) ∧ u = (m : Int) ∧ 0 < S.r n ∧ 0 < S.r m ∧ S.c n = S.c m := fun ⟨n, k, hk, _, e1, e2, hk2, _, e3⟩ => by
      have := hno n hk e1
      omega
    rcases id hv2 with ⟨y, hy, rfl, hry, rfl⟩ | ⟨hno2, rfl⟩
    · skip
      refine AMet.of rfl rfl (Nat.le_of_ble_eq_true rfl) ?_
      show AW g mX5_join (d + 8) 0 [(0, .ref b), (1, .int (iZ t)), (2, .int (iZ y))] [] V sz _
      refine aw_aload_n dX5_join_0 (by rfl) (Or.inr ⟨_, rfl⟩) ?_
      refine aw_iload_n dX5_join_1 (by rfl) ?_
      refine aw_callv vX5_72 dX5_join_2 hb (t_find (d + 6) h ht hv) (by rfl) (by rfl) (by omega) (Nat.le_of_ble_eq_true rfl) ?_
      rintro _ _ _ _ _ ⟨rfl, rfl, rfl, rfl, rfl⟩ -
      refine q0 ?_
      refine aw_astore_n dX5_join_5 (by decide) (Or.inl rfl) ?_
      refine aw_aload_n dX5_join_6 (by rfl) (Or.inr ⟨_, rfl⟩) ?_
      refine aw_iload_n dX5_join_7 (by rfl) ?_
      refine aw_callv vX5_72 dX5_join_8 hb (t_find (d + 6) h hu hv2) (by rfl) (by rfl) (by omega) (Nat.le_of_ble_eq_true rfl) ?_
      rintro _ _ _ _ _ ⟨rfl, rfl, rfl, rfl, rfl⟩ -
      refine q0 ?_
      refine aw_astore dX5_join_11 (by decide) (Or.inr ⟨_, rfl⟩) ?_
      refine aw_aload_n dX5_join_13 (by rfl) (Or.inl rfl) ?_
      refine aw_aload dX5_join_14 (by rfl) (Or.inr ⟨_, rfl⟩) ?_
      refine aw_calls sX5_137 dX5_join_16 (t_areAlike (d + 7) (q := 0) h hv hv2 (Or.inr ⟨rfl, hal⟩)) (by rfl) (by rfl) (by omega) (Nat.le_of_ble_eq_true rfl) ?_
      rintro _ _ _ _ _ ⟨rfl, rfl, rfl, rfl, rfl⟩ -
      refine q0 ?_
      refine aw_if_neZ (tgt := 24) dX5_join_19 (by decide) (by decide) (fun hc_19 => ?_) (fun hc_19 => ?_)
      · exact absurd rfl hc_19
      · refine aw_iconstZ dX5_join_22 ?_
        refine aw_iret dX5_join_23 rfl (by rfl) ?_
        exact WE.ret hw0 ⟨S, A, h, Or.inr ⟨hal, rfl, rfl, rfl⟩⟩
    · skip
      refine AMet.of rfl rfl (Nat.le_of_ble_eq_true rfl) ?_
      show AW g mX5_join (d + 8) 0 [(0, .ref b), (1, .int (iZ t)), (2, .int (iZ u))] [] V sz _
      refine aw_aload_n dX5_join_0 (by rfl) (Or.inr ⟨_, rfl⟩) ?_
      refine aw_iload_n dX5_join_1 (by rfl) ?_
      refine aw_callv vX5_72 dX5_join_2 hb (t_find (d + 6) h ht hv) (by rfl) (by rfl) (by omega) (Nat.le_of_ble_eq_true rfl) ?_
      rintro _ _ _ _ _ ⟨rfl, rfl, rfl, rfl, rfl⟩ -
      refine q0 ?_
      refine aw_astore_n dX5_join_5 (by decide) (Or.inl rfl) ?_
      refine aw_aload_n dX5_join_6 (by rfl) (Or.inr ⟨_, rfl⟩) ?_
      refine aw_iload_n dX5_join_7 (by rfl) ?_
      refine aw_callv vX5_72 dX5_join_8 hb (t_find (d + 6) h hu hv2) (by rfl) (by rfl) (by omega) (Nat.le_of_ble_eq_true rfl) ?_
      rintro _ _ _ _ _ ⟨rfl, rfl, rfl, rfl, rfl⟩ -
      refine q0 ?_
      refine aw_astore dX5_join_11 (by decide) (Or.inl rfl) ?_
      refine aw_aload_n dX5_join_13 (by rfl) (Or.inl rfl) ?_
      refine aw_aload dX5_join_14 (by rfl) (Or.inl rfl) ?_
      refine aw_calls sX5_137 dX5_join_16 (t_areAlike (d + 7) (q := 0) h hv hv2 (Or.inr ⟨rfl, hal⟩)) (by rfl) (by rfl) (by omega) (Nat.le_of_ble_eq_true rfl) ?_
      rintro _ _ _ _ _ ⟨rfl, rfl, rfl, rfl, rfl⟩ -
      refine q0 ?_
      refine aw_if_neZ (tgt := 24) dX5_join_19 (by decide) (by decide) (fun hc_19 => ?_) (fun hc_19 => ?_)
      · exact absurd rfl hc_19
      · refine aw_iconstZ dX5_join_22 ?_
        refine aw_iret dX5_join_23 rfl (by rfl) ?_
        exact WE.ret hw0 ⟨S, A, h, Or.inr ⟨hal, rfl, rfl, rfl⟩⟩

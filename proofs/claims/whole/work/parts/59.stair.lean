/-! ===== the stair of a table in wide, second; stair, kernel ===== -/
theorem sm_kbt : ∀ w : Fin 11, ((KB w 1000).natAbs : Int) < 2147483648 ^ 150 := by decide +kernel
theorem sm_kb {w : Nat} {x : Int} (hw : w < 11) (h : ab x ≤ KB w 1000) : Sm x := by
  have h1 : ab (KB w 1000) < 2147483648 ^ 150 := sm_kbt ⟨w, hw⟩
  have h2 : ab (KB w 1000) = KB w 1000 := ab_pos (by have := KB.one (w := w) (b := 1000) (by omega); omega)
  show ab x < 2147483648 ^ 150
  generalize (2147483648 : Int) ^ 150 = B at *
  omega
theorem tb_sab {b n : Nat} {X : Nat → Prop} (hn : n < 12) : SAB b X (b + 647 + 3 * n) ∧ SAB b X (b + 647 + 3 * n + 1) ∧ SAB b X (b + 647 + 3 * n + 2) := ⟨sab_t (by omega), sab_t (by omega), sab_t (by omega)⟩
theorem eg_W {b a : Nat} (h : EG (GWd b) a) : b + 159 ≤ a ∧ a < b + 423 := by
  have : a = b + 159 ∨ a = b + 159 + 21 ∨ a = b + 159 + 20 := h
  omega
theorem eg_S {b a : Nat} (h : EG (GSc b) a) : b + 423 ≤ a ∧ a < b + 517 := by
  have : a = b + 423 ∨ a = b + 423 + 21 ∨ a = b + 423 + 20 := h
  omega
theorem eg_H {b a : Nat} (h : EG (GTh b) a) : b + 517 ≤ a ∧ a < b + 611 := by
  have : a = b + 517 ∨ a = b + 517 + 21 ∨ a = b + 517 + 20 := h
  omega
/-- the stair of a lattice stands in a Grid -/
def GSp (g : GX) (b : Nat) (V : AH) (Z : Nat → Int) (G : GG) (M : Mat) (n w : Nat) (h : Nat) (ld : Nat → Int) (l ρ : Nat → Nat) : Prop := GD g V (G.gd + 1) G h w ld ρ ∧ (∀ i, i < h → ld i = (l i : Int)) ∧ Stair (AM G Z ρ) h w l ∧ SpEq M n (AM G Z ρ) h w
theorem GSp.sm {g : GX} {b : Nat} {V : AH} {Z : Nat → Int} {G : GG} {M : Mat} {n w h : Nat} {ld : Nat → Int} {l ρ : Nat → Nat} (k : GSp g b V Z G M n w h ld l ρ) (hw : w < 11) (hM : ∀ i j, i < n → j < w → ab (M i j) ≤ 1000) : (∀ i j, i < h → j < w → ab (AM G Z ρ i j) ≤ KB w 1000) ∧ ∀ i j, i < h → j < w → Sm (AM G Z ρ i j) := by
  have h1 : LB (AM G Z ρ) h w (KB w 1000) := (lb_of (by omega) hM).eq k.2.2.2
  exact ⟨fun i j hi hj => k.2.2.1.bd h1 hi hj, fun i j hi hj => sm_kb hw (k.2.2.1.bd h1 hi hj)⟩
theorem TOK.tb {S : TSt} (h : TOK S) {n : Nat} (hn : n < 12) : ∀ i j, i < S.r n → j < S.c n → ab (TM (S.N n) i j) ≤ 1000 := fun i j hi hj => by
  obtain ⟨h1, h2, -, h4, -⟩ := h n hn
  have := h4 (5 * i + j) (by omega)
  show ab (S.N n _) ≤ _
  unfold ab; omega
theorem TOK.tu {S : TSt} (h : TOK S) {n : Nat} (hn : n < 12) : ∀ i j, i < S.r n → j < S.c n + S.r n → ab (TU (S.N n) (S.c n) i j) ≤ 1000 := fun i j hi hj => by
  obtain ⟨h1, h2, -, h4, -⟩ := h n hn
  show ab (if j < S.c n then _ else _) ≤ _
  split
  · have := h4 (5 * i + j) (by omega); unfold ab; omega
  · split <;> (unfold ab; omega)
theorem c_reachW {g : GX} {b : Nat} {X : Nat → Prop} {V : AH} {sz : Nat} {Z : Nat → Int} {S : TSt} {A : ASt} (d : Nat) {P L : Nat → Nat} {n : Nat} (hw0 : WG g (wsB b) (SAB b X) V sz Z P L) (h : CX g b X V Z S A) (hn : n < 12) : AMet g mX1_reachOf (d + 7) [.ref (b + 159), .ref (b + 647 + 3 * n)] V sz (WE g (wsB b) (SAB b X) (EB b) V sz L (fun r V' Z' => none = r ∧ CX g b X V' Z' S A ∧ (∃ (h1 : Nat) (ld : Nat → Int) (l1 : Nat → Nat) (ρ : Nat → Nat), GSp g b V' Z' (GWd b) (TM (S.N n)) (S.r n) (S.c n) h1 ld l1 ρ) ∧ Chg b X (b + 159) (b + 423) V Z V' Z')) := by
  obtain ⟨-, hTb, hOk, hD, -, -, hW, hSc, hTh, -⟩ := id h
  obtain ⟨hr5, hc5, -, hNr, -⟩ := hOk n hn
  obtain ⟨h0, w0, ld0, ρ0, hG⟩ := hW
  have hk := w_reachOf g d (D := DG (b + 159)) (gso_W b X) hNr ⟨hr5, hc5⟩ (show S.c n < _ from (by omega : S.c n < 11)) (show S.c n ≤ _ from (by omega : S.c n ≤ 10)) (tb_sab hn) ⟨fun q => by have := eg_W q; omega, fun q => by have := eg_W q; omega, fun q => by have := eg_W q; omega⟩ hw0 hD.2.1 (hTb n hn) hG
  refine hk.mono (fun r V' sz' mc ms q => ?_)
  obtain ⟨Z', P', L', ⟨e, h1, ld, l1, ρ, q1, q2, q3, q4, q5⟩, hs⟩ := q
  have hc : Chg b X (b + 159) (b + 423) V Z V' Z' := chg_g (by omega) (by omega) (fun a ha => by omega) hs q5
  exact ⟨Z', P', L', ⟨e, h.wide rfl rfl hc ⟨h1, _, ld, ρ, q1⟩, ⟨h1, ld, l1, ρ, q1, q2, q3, q4⟩, hc⟩, hs.weak (fun a q => by have := eg_W q; exact ⟨by omega, by omega⟩)⟩
theorem c_reachS {g : GX} {b : Nat} {X : Nat → Prop} {V : AH} {sz : Nat} {Z : Nat → Int} {S : TSt} {A : ASt} (d : Nat) {P L : Nat → Nat} {n : Nat} (hw0 : WG g (wsB b) (SAB b X) V sz Z P L) (h : CX g b X V Z S A) (hn : n < 12) : AMet g mX1_reachOf (d + 7) [.ref (b + 423), .ref (b + 647 + 3 * n)] V sz (WE g (wsB b) (SAB b X) (EB b) V sz L (fun r V' Z' => none = r ∧ CX g b X V' Z' S A ∧ (∃ (h1 : Nat) (ld : Nat → Int) (l1 : Nat → Nat) (ρ : Nat → Nat), GSp g b V' Z' (GSc b) (TM (S.N n)) (S.r n) (S.c n) h1 ld l1 ρ) ∧ Chg b X (b + 423) (b + 517) V Z V' Z')) := by
  obtain ⟨-, hTb, hOk, hD, -, -, hW, hSc, hTh, -⟩ := id h
  obtain ⟨hr5, hc5, -, hNr, -⟩ := hOk n hn
  obtain ⟨h0, w0, ld0, ρ0, hG⟩ := hSc
  have hk := w_reachOf g d (D := DG (b + 423)) (gso_S b X) hNr ⟨hr5, hc5⟩ (show S.c n < _ from (by omega : S.c n < 6)) (show S.c n ≤ _ from (by omega : S.c n ≤ 5)) (tb_sab hn) ⟨fun q => by have := eg_S q; omega, fun q => by have := eg_S q; omega, fun q => by have := eg_S q; omega⟩ hw0 hD.2.2.1 (hTb n hn) hG
  refine hk.mono (fun r V' sz' mc ms q => ?_)
  obtain ⟨Z', P', L', ⟨e, h1, ld, l1, ρ, q1, q2, q3, q4, q5⟩, hs⟩ := q
  have hc : Chg b X (b + 423) (b + 517) V Z V' Z' := chg_g (by omega) (by omega) (fun a ha => by omega) hs q5
  exact ⟨Z', P', L', ⟨e, h.second rfl rfl hc ⟨h1, _, ld, ρ, q1⟩, ⟨h1, ld, l1, ρ, q1, q2, q3, q4⟩, hc⟩, hs.weak (fun a q => by have := eg_S q; exact ⟨by omega, by omega⟩)⟩
theorem c_reachM {g : GX} {b : Nat} {X : Nat → Prop} {V : AH} {sz : Nat} {Z : Nat → Int} {S : TSt} {A : ASt} (d : Nat) {P L : Nat → Nat} {n : Nat} (hw0 : WG g (wsB b) (SAB b X) V sz Z P L) (h : CX g b X V Z S A) (hn : n < 12) : AMet g mX1_reachWithMultiples (d + 7) [.ref (b + 159), .ref (b + 647 + 3 * n)] V sz (WE g (wsB b) (SAB b X) (EB b) V sz L (fun r V' Z' => none = r ∧ CX g b X V' Z' S A ∧ (∃ (h1 : Nat) (ld : Nat → Int) (l1 : Nat → Nat) (ρ : Nat → Nat), GSp g b V' Z' (GWd b) (TU (S.N n) (S.c n)) (S.r n) (S.c n + S.r n) h1 ld l1 ρ) ∧ Chg b X (b + 159) (b + 423) V Z V' Z')) := by
  obtain ⟨-, hTb, hOk, hD, -, -, hW, hSc, hTh, -⟩ := id h
  obtain ⟨hr5, hc5, -, hNr, -⟩ := hOk n hn
  obtain ⟨h0, w0, ld0, ρ0, hG⟩ := hW
  have hk := w_reachWithMultiples g d (D := DG (b + 159)) (gso_W b X) hNr ⟨hr5, hc5⟩ (show S.c n + S.r n < _ from (by omega : S.c n + S.r n < 11)) (show S.c n + S.r n ≤ _ from (by omega : S.c n + S.r n ≤ 10)) (tb_sab hn) ⟨fun q => by have := eg_W q; omega, fun q => by have := eg_W q; omega, fun q => by have := eg_W q; omega⟩ hw0 hD.2.1 (hTb n hn) hG
  refine hk.mono (fun r V' sz' mc ms q => ?_)
  obtain ⟨Z', P', L', ⟨e, h1, ld, l1, ρ, q1, q2, q3, q4, q5⟩, hs⟩ := q
  have hc : Chg b X (b + 159) (b + 423) V Z V' Z' := chg_g (by omega) (by omega) (fun a ha => by omega) hs q5
  exact ⟨Z', P', L', ⟨e, h.wide rfl rfl hc ⟨h1, _, ld, ρ, q1⟩, ⟨h1, ld, l1, ρ, q1, q2, q3, q4⟩, hc⟩, hs.weak (fun a q => by have := eg_W q; exact ⟨by omega, by omega⟩)⟩
abbrev mX5_stair : MI := (yX5_stair, cX5_stair, 3, (some FieldType.int), noX)
theorem dX5_stair_0 : decode cX5_stair 0 = .ok (.aload_n 0, 1) := by decide +kernel
theorem dX5_stair_1 : decode cX5_stair 1 = .ok (.iload_n 1, 1) := by decide +kernel
theorem dX5_stair_2 : decode cX5_stair 2 = .ok (.invokevirtual 72, 3) := by decide +kernel
theorem dX5_stair_5 : decode cX5_stair 5 = .ok (.astore_n 2, 1) := by decide +kernel
theorem dX5_stair_6 : decode cX5_stair 6 = .ok (.aload_n 2, 1) := by decide +kernel
theorem dX5_stair_7 : decode cX5_stair 7 = .ok (.ifnonnull 5, 3) := by decide +kernel
theorem dX5_stair_10 : decode cX5_stair 10 = .ok (.iconst (-1), 1) := by decide +kernel
theorem dX5_stair_11 : decode cX5_stair 11 = .ok (.ireturn, 1) := by decide +kernel
theorem dX5_stair_12 : decode cX5_stair 12 = .ok (.aload_n 0, 1) := by decide +kernel
theorem dX5_stair_13 : decode cX5_stair 13 = .ok (.getfield 35, 3) := by decide +kernel
theorem dX5_stair_16 : decode cX5_stair 16 = .ok (.aload_n 2, 1) := by decide +kernel
theorem dX5_stair_17 : decode cX5_stair 17 = .ok (.invokevirtual 103, 3) := by decide +kernel
theorem dX5_stair_20 : decode cX5_stair 20 = .ok (.aload_n 0, 1) := by decide +kernel
theorem dX5_stair_21 : decode cX5_stair 21 = .ok (.aload_n 0, 1) := by decide +kernel
theorem dX5_stair_22 : decode cX5_stair 22 = .ok (.getfield 35, 3) := by decide +kernel
theorem dX5_stair_25 : decode cX5_stair 25 = .ok (.iconst 0, 1) := by decide +kernel
theorem dX5_stair_26 : decode cX5_stair 26 = .ok (.iconst 0, 1) := by decide +kernel
theorem dX5_stair_27 : decode cX5_stair 27 = .ok (.invokevirtual 163, 3) := by decide +kernel
theorem dX5_stair_30 : decode cX5_stair 30 = .ok (.ireturn, 1) := by decide +kernel
theorem c_stair {g : GX} {b : Nat} {X : Nat → Prop} {V : AH} {sz : Nat} {Z : Nat → Int} {S : TSt} {A : ASt} (d : Nat) {t : Int} {P L : Nat → Nat} (hw0 : WG g (wsB b) (SAB b X) V sz Z P L) (h : CX g b X V Z S A) (ht : R32 t) : AMet g mX5_stair (d + 8) [.ref b, .int (iZ t)] V sz (CE g b X V sz L (fun q S' A' => S' = S ∧ ((∃ (n h1 : Nat) (l1 : Nat → Nat) (B : Mat), n < 12 ∧ t = (n : Int) ∧ 0 < S.r n ∧ Stair B h1 (S.c n) l1 ∧ SpEq (TM (S.N n)) (S.r n) B h1 (S.c n) ∧ some (.int (iZ h1)) = q ∧ AIs A' h1 (S.c n) B) ∨ ((∀ n : Nat, n < 12 → t = (n : Int) → S.r n = 0) ∧ some (.int (iZ (-1))) = q ∧ A' = A)))) := by
  obtain ⟨⟨hb, hb1⟩, hTb, hOk, -⟩ := id h
  obtain ⟨v, hv⟩ := FindV.ex S b t
  rcases hv with ⟨n, hn, rfl, hr, rfl⟩ | ⟨hno, rfl⟩
  · obtain ⟨hr5, hc5, -⟩ := hOk n hn
    obtain ⟨h0, w0, ld0, ρ0, hG0⟩ := h.2.2.2.2.2.2.1
    have hgd0 : V (b + 159) = _ := hG0.1
    refine AMet.of rfl rfl (Nat.le_of_ble_eq_true rfl) ?_
    show AW g mX5_stair (d + 8) 0 [(0, .ref b), (1, .int (iZ n))] [] V sz _
    refine aw_aload_n dX5_stair_0 (by rfl) (Or.inr ⟨_, rfl⟩) ?_
    refine aw_iload_n dX5_stair_1 (by rfl) ?_
    refine aw_callv vX5_72 dX5_stair_2 hb (t_find (d + 6) h ht (Or.inl ⟨n, hn, rfl, hr, rfl⟩)) (by rfl) (by rfl) (by omega) (Nat.le_of_ble_eq_true rfl) ?_
    rintro _ _ _ _ _ ⟨rfl, rfl, rfl, rfl, rfl⟩ -
    refine q0 ?_
    refine aw_astore_n dX5_stair_5 (by decide) (Or.inr ⟨_, rfl⟩) ?_
    refine aw_aload_n dX5_stair_6 (by rfl) (Or.inr ⟨_, rfl⟩) ?_
    refine aw_ifnonnull_r (tgt := 12) dX5_stair_7 (by decide) ?_
    refine aw_aload_n dX5_stair_12 (by rfl) (Or.inr ⟨_, rfl⟩) ?_
    refine aw_get fX5_35 dX5_stair_13 hb (by rfl) ?_
    refine aw_aload_n dX5_stair_16 (by rfl) (Or.inr ⟨_, rfl⟩) ?_
    refine aw_callv vX5_103 dX5_stair_17 hgd0 (c_reachW d hw0 h hn) (by rfl) (by rfl) (by omega) (Nat.le_of_ble_eq_true rfl) ?_
    rintro _ V1 sz1 mc1 ms1 ⟨Z1, P1, L1, ⟨rfl, hcx1, ⟨h1, ld1, l1, ρ1, hg1⟩, -⟩, hs1⟩ -
    refine WE.stp hs1 ?_
    obtain ⟨⟨hb1', hb11⟩, -, -, -, ⟨ldT, ρT, hGT, -⟩, hAo, -⟩ := id hcx1
    have hle := hg1.2.2.1.1.le_w
    refine aw_aload_n dX5_stair_20 (by rfl) (Or.inr ⟨_, rfl⟩) ?_
    refine aw_aload_n dX5_stair_21 (by rfl) (Or.inr ⟨_, rfl⟩) ?_
    refine aw_get fX5_35 dX5_stair_22 hb1' (by rfl) ?_
    refine aw_iconstZ dX5_stair_25 ?_
    refine aw_iconstZ dX5_stair_26 ?_
    refine aw_callv vX5_163 dX5_stair_27 hb1' (t_tellRows (d + 3) (fr := 0) (fc := 0) hcx1 hGT hg1.1 (by omega) (hg1.sm (by omega) (hOk.tb hn)).2 hAo hs1.1) (by rfl) (by rfl) (by omega) (Nat.le_of_ble_eq_true rfl) ?_
    rintro _ V2 sz2 mc2 ms2 ⟨Z2, P2, L2, ⟨S2, A2, hcx2, rfl, rfl, hAI⟩, hs2⟩ -
    refine WE.stp hs2 ?_
    refine aw_iret dX5_stair_30 rfl (by rfl) ?_
    exact WE.ret hs2.1 ⟨_, _, hcx2, rfl, Or.inl ⟨n, h1, l1, AM (GWd b) Z1 ρ1, hn, rfl, hr, hg1.2.2.1, hg1.2.2.2, rfl, by simpa using hAI⟩⟩
  · skip
    refine AMet.of rfl rfl (Nat.le_of_ble_eq_true rfl) ?_
    show AW g mX5_stair (d + 8) 0 [(0, .ref b), (1, .int (iZ t))] [] V sz _
    refine aw_aload_n dX5_stair_0 (by rfl) (Or.inr ⟨_, rfl⟩) ?_
    refine aw_iload_n dX5_stair_1 (by rfl) ?_
    refine aw_callv vX5_72 dX5_stair_2 hb (t_find (d + 6) h ht (Or.inr ⟨hno, rfl⟩)) (by rfl) (by rfl) (by omega) (Nat.le_of_ble_eq_true rfl) ?_
    rintro _ _ _ _ _ ⟨rfl, rfl, rfl, rfl, rfl⟩ -
    refine q0 ?_
    refine aw_astore_n dX5_stair_5 (by decide) (Or.inl rfl) ?_
    refine aw_aload_n dX5_stair_6 (by rfl) (Or.inl rfl) ?_
    refine aw_ifnonnull_n dX5_stair_7 ?_
    refine aw_iconstZ dX5_stair_10 ?_
    refine aw_iret dX5_stair_11 rfl (by rfl) ?_
    exact WE.ret hw0 ⟨S, A, h, rfl, Or.inr ⟨hno, rfl, rfl⟩⟩

/-! ===== takeOff of the asked row ===== -/
theorem CX.zs {g : GX} {b : Nat} {X : Nat → Prop} {V V' : AH} {Z Z' : Nat → Int} {S : TSt} {A : ASt} (h : CX g b X V Z S A) (hV : ∀ a, SAB b X a → V' a = V a) (hZ : ∀ x, x < b + 159 ∨ DK b x → Z' x = Z x) : CX g b X V' Z' S A := by
  obtain ⟨hB, hTb, hOk, hD, hT, hA, hW, hSc, hTh, hAs, hFa, hMa, hMi⟩ := h
  refine ⟨⟨(hV _ (Or.inl rfl)).trans hB.1, (hV _ (Or.inr (Or.inl rfl))).trans hB.2⟩, fun t ht => (hTb t ht).kept (hV _ (tb_sab ht).1) (hV _ (tb_sab ht).2.1) (hV _ (tb_sab ht).2.2), hOk, hD.keep (fun a ha _ => hV a ha) (fun x q => hZ x (by rcases q with q | q; (exact Or.inl (by omega)); (exact Or.inr q))), ?_, hA, ?_, ?_, ?_, hAs.kept (hV _ (sab_r (by omega))) (hV _ (sab_r (by omega))), hFa.kept (hV _ (sab_r (by omega))) (hV _ (sab_r (by omega))), ?_, ?_⟩
  · obtain ⟨ld, ρ, h1, h2⟩ := hT
    refine ⟨ld, ρ, h1.kept2 (fun a ha => hV a (sab_gT ha).1), fun i j hi hj => ?_⟩
    rw [← h2 i j hi hj]
    have hRS := h1.2.2.2.2.1 i (show i < 10 by have := hA.2.1; omega)
    have h3 := gl_cell (t0 := b + 17) (mr := 10) (mc := 5) hRS (show j < 5 by have := hA.2.2.1; omega)
    have h4 : b + 17 + 24 ≤ (GT b).ga (ρ i) j ∧ (GT b).ga (ρ i) j < b + 17 + 22 + (2 + 2 * 5) * 10 := h3
    exact hZ _ (by omega)
  · obtain ⟨h, w, ld, ρ, h1⟩ := hW
    exact ⟨h, w, ld, ρ, h1.kept2 (fun a ha => hV a (sab_gW ha).1)⟩
  · obtain ⟨h, w, ld, ρ, h1⟩ := hSc
    exact ⟨h, w, ld, ρ, h1.kept2 (fun a ha => hV a (sab_gS ha).1)⟩
  · obtain ⟨h, w, ld, ρ, h1⟩ := hTh
    exact ⟨h, w, ld, ρ, h1.kept2 (fun a ha => hV a (sab_gH ha).1)⟩
  · obtain ⟨F, h1⟩ := hMa
    exact ⟨F, (hV _ (sab_t (by omega))).trans h1⟩
  · obtain ⟨F, h1⟩ := hMi
    exact ⟨F, (hV _ (sab_t (by omega))).trans h1⟩
theorem us_as {b j : Nat} (hj : j < 10) : US (wsB b) (DB b) (b + 613 + 2 * j) := ⟨mem_ws.mpr (Or.inr (Or.inr (Or.inr (Or.inr (Or.inr (Or.inl ⟨j, hj, rfl⟩)))))), by show b + 613 + 2 * j ≠ b + 3; omega, by show b + 613 + 2 * j ≠ b + 5; omega, by show b + 613 + 2 * j ≠ b + 7; omega⟩
theorem us_fa {b j : Nat} (hj : j < 5) : US (wsB b) (DB b) (b + 635 + 2 * j) := ⟨mem_ws.mpr (Or.inr (Or.inr (Or.inr (Or.inr (Or.inr (Or.inr ⟨j, hj, rfl⟩)))))), by show b + 635 + 2 * j ≠ b + 3; omega, by show b + 635 + 2 * j ≠ b + 5; omega, by show b + 635 + 2 * j ≠ b + 7; omega⟩
theorem us_asG {b j t0 : Nat} (ht : t0 + 16 ≤ b + 613) (hj : j < 10) : US (wsB b) (DG t0) (b + 613 + 2 * j) := ⟨(us_as hj).1, by show b + 613 + 2 * j ≠ t0 + 2; omega, by show b + 613 + 2 * j ≠ t0 + 4; omega, by show b + 613 + 2 * j ≠ t0 + 6; omega⟩
theorem us_faG {b j t0 : Nat} (ht : t0 + 16 ≤ b + 613) (hj : j < 5) : US (wsB b) (DG t0) (b + 635 + 2 * j) := ⟨(us_fa hj).1, by show b + 635 + 2 * j ≠ t0 + 2; omega, by show b + 635 + 2 * j ≠ t0 + 4; omega, by show b + 635 + 2 * j ≠ t0 + 6; omega⟩
theorem c_offW {g : GX} {b : Nat} {X : Nat → Prop} {V : AH} {sz : Nat} {Z : Nat → Int} {S : TSt} {A : ASt} (d : Nat) {P L : Nat → Nat} {M : Mat} {n w h1 fr to : Nat} {ld : Nat → Int} {l ρ : Nat → Nat} {C : Int} (hw0 : WG g (wsB b) (SAB b X) V sz Z P L) (h : CX g b X V Z S A) (hg : GSp g b V Z (GWd b) M n w h1 ld l ρ) (hM : ∀ i j, i < n → j < w → ab (M i j) ≤ 1000) (hw : w ≤ 10) (hto : fr ≤ to ∧ to ≤ h1 ∧ to ≤ fr + 5) (hC1 : 1 ≤ C) (hC : ∀ j, j < w → ab (Z (b + 613 + 2 * j)) ≤ C) (hT2 : Sm (2 * (C * (1 + KB w 1000) ^ (to - fr)))) : AMet g mX1_takeOff (d + 5) [.ref (b + 159), .ref (b + 611), .int (iZ fr), .int (iZ to), .ref (b + 633)] V sz (WE g (wsB b) (SAB b X) (EB b) V sz L (fun r V' Z' => CX g b X V' Z' S A ∧ GSp g b V' Z' (GWd b) M n w h1 ld l ρ ∧ ((∀ a, SAB b X a → V' a = V a) ∧ (∀ x, x < b + 613 → x ≠ (GWd b).pr → Z' x = Z x) ∧ (∀ i j, i < h1 → j < w → AM (GWd b) Z' ρ i j = AM (GWd b) Z ρ i j) ∧ ∀ j, w ≤ j → j < 10 → Z' (b + 613 + 2 * j) = Z (b + 613 + 2 * j)) ∧ ∃ q : Nat → Int, (∀ j, j < w → Z' (b + 613 + 2 * j) = Z (b + 613 + 2 * j) - Sg (fun t => q t * AM (GWd b) Z ρ (fr + t) j) (to - fr)) ∧ (∀ t, t < to - fr → Z' (b + 635 + 2 * t) = q t ∧ 0 ≤ Z' (b + 613 + 2 * l (fr + t)) ∧ Z' (b + 613 + 2 * l (fr + t)) < AM (GWd b) Z ρ (fr + t) (l (fr + t))) ∧ (∀ j, j < w → ab (Z' (b + 613 + 2 * j)) ≤ C * (1 + KB w 1000) ^ (to - fr)) ∧ ((∀ j, j < w → Z' (b + 613 + 2 * j) = 0) ∧ some (.int (iZ 1)) = r ∨ ¬ (∀ j, j < w → Z' (b + 613 + 2 * j) = 0) ∧ some (.int (iZ 0)) = r))) := by
  obtain ⟨-, -, -, hD, -, -, -, -, -, hAs, hFa, -⟩ := id h
  obtain ⟨hG, hld, hst, hsp⟩ := id hg
  have hle := hst.1.le_w
  have hcl : ∀ ro, (GWd b).RS ro → ∀ i, i < 10 → b + 159 ≤ (GWd b).ga ro i ∧ (GWd b).ga ro i < b + 611 := fun ro hr i hi => by
    have h1 := gl_cell (t0 := b + 159) (mr := 11) (mc := 10) hr hi
    have e : (GWd b).ga ro i = (GL (b + 159) 11 10).ga ro i := rfl
    omega
  have hpr : (GWd b).pr = b + 159 + 18 := rfl
  have hk := w_takeOff g d (D := DG (b + 159)) (G := GWd b) (K := KB w 1000) (C := C) (fr := fr) (to := to) (gso_W b X) hG (show h1 ≤ 11 by omega) (show w ≤ 10 by omega) (show w ≤ 10 by omega) ⟨hto.1, hto.2.1, hto.2.2⟩ hld hst (KB.one (by omega)) hC1 (hg.sm (by omega) hM).1 hC hT2 hAs hFa ⟨sab_r (by omega), sab_r (by omega), sab_r (by omega), sab_r (by omega)⟩ (fun j hj => ⟨us_asG (by omega) hj, by show b + 613 + 2 * j ≠ (GWd b).pr; rw [hpr]; omega, fun rr hrr i hi => by have := hcl rr hrr i hi; show b + 613 + 2 * j ≠ _; omega, fun i hi => by show b + 613 + 2 * j ≠ b + 635 + 2 * i; omega⟩) (fun j hj => ⟨us_faG (by omega) hj, by show b + 635 + 2 * j ≠ (GWd b).pr; rw [hpr]; omega, fun rr hrr i hi => by have := hcl rr hrr i hi; show b + 635 + 2 * j ≠ _; omega⟩) (fun i j _ _ hne => by show b + 613 + 2 * i ≠ b + 613 + 2 * j; omega) (fun i j _ _ hne => by show b + 635 + 2 * i ≠ b + 635 + 2 * j; omega) hw0 hD.2.1 (fun _ _ => rfl)
  refine hk.mono (fun r V' sz' mc ms q => ?_)
  obtain ⟨Z', P', L', ⟨q, hT, hres⟩, hs⟩ := q
  have hkv : ∀ a, SAB b X a → V' a = V a := fun a ha => hs.2.2.1 a ha (fun z => z)
  have hZl : ∀ x, x < b + 613 → x ≠ (GWd b).pr → Z' x = Z x := fun x hx hne => hT.2.2.2 x hne (fun j hj => by show x ≠ b + 613 + 2 * j; omega) (fun t ht => by show x ≠ b + 635 + 2 * t; omega)
  have hAm : ∀ i j, i < h1 → j < w → AM (GWd b) Z' ρ i j = AM (GWd b) Z ρ i j := fun i j hi hj => by
    have hc := hcl _ (hG.2.2.2.2.1 i (show i < 11 by omega)) j (by omega)
    exact hZl _ (by omega) ((gso_W b X).2.2.2.2.1 _ (hG.2.2.2.2.1 i (show i < 11 by omega)) j (show j < 10 by omega)).2.2
  refine ⟨Z', P', L', ⟨h.zs hkv (fun x hx => hZl x (by omega) (by rw [hpr]; omega)), ⟨hG.kept2 (fun a ha => hkv a (sab_gW ha).1), hld, hst.cong (fun i hi j hj => hAm i j hi hj), hsp.tr (SpEq.cong (fun i hi j hj => (hAm i j hi hj).symm))⟩, ⟨hkv, hZl, hAm, fun j hj1 hj2 => hT.2.2.2 _ (by show b + 613 + 2 * j ≠ (GWd b).pr; rw [hpr]; omega) (fun i hi => by show b + 613 + 2 * j ≠ b + 613 + 2 * i; omega) (fun t ht => by show b + 613 + 2 * j ≠ b + 635 + 2 * t; omega)⟩, q, hT.1, hT.2.1, hT.2.2.1, hres⟩, hs.weak (fun _ z => z.elim)⟩
theorem c_offS {g : GX} {b : Nat} {X : Nat → Prop} {V : AH} {sz : Nat} {Z : Nat → Int} {S : TSt} {A : ASt} (d : Nat) {P L : Nat → Nat} {M : Mat} {n w h1 fr to : Nat} {ld : Nat → Int} {l ρ : Nat → Nat} {C : Int} (hw0 : WG g (wsB b) (SAB b X) V sz Z P L) (h : CX g b X V Z S A) (hg : GSp g b V Z (GSc b) M n w h1 ld l ρ) (hM : ∀ i j, i < n → j < w → ab (M i j) ≤ 1000) (hw : w ≤ 5) (hto : fr ≤ to ∧ to ≤ h1 ∧ to ≤ fr + 5) (hC1 : 1 ≤ C) (hC : ∀ j, j < w → ab (Z (b + 613 + 2 * j)) ≤ C) (hT2 : Sm (2 * (C * (1 + KB w 1000) ^ (to - fr)))) : AMet g mX1_takeOff (d + 5) [.ref (b + 423), .ref (b + 611), .int (iZ fr), .int (iZ to), .ref (b + 633)] V sz (WE g (wsB b) (SAB b X) (EB b) V sz L (fun r V' Z' => CX g b X V' Z' S A ∧ GSp g b V' Z' (GSc b) M n w h1 ld l ρ ∧ ((∀ a, SAB b X a → V' a = V a) ∧ (∀ x, x < b + 613 → x ≠ (GSc b).pr → Z' x = Z x) ∧ (∀ i j, i < h1 → j < w → AM (GSc b) Z' ρ i j = AM (GSc b) Z ρ i j) ∧ ∀ j, w ≤ j → j < 10 → Z' (b + 613 + 2 * j) = Z (b + 613 + 2 * j)) ∧ ∃ q : Nat → Int, (∀ j, j < w → Z' (b + 613 + 2 * j) = Z (b + 613 + 2 * j) - Sg (fun t => q t * AM (GSc b) Z ρ (fr + t) j) (to - fr)) ∧ (∀ t, t < to - fr → Z' (b + 635 + 2 * t) = q t ∧ 0 ≤ Z' (b + 613 + 2 * l (fr + t)) ∧ Z' (b + 613 + 2 * l (fr + t)) < AM (GSc b) Z ρ (fr + t) (l (fr + t))) ∧ (∀ j, j < w → ab (Z' (b + 613 + 2 * j)) ≤ C * (1 + KB w 1000) ^ (to - fr)) ∧ ((∀ j, j < w → Z' (b + 613 + 2 * j) = 0) ∧ some (.int (iZ 1)) = r ∨ ¬ (∀ j, j < w → Z' (b + 613 + 2 * j) = 0) ∧ some (.int (iZ 0)) = r))) := by
  obtain ⟨-, -, -, hD, -, -, -, -, -, hAs, hFa, -⟩ := id h
  obtain ⟨hG, hld, hst, hsp⟩ := id hg
  have hle := hst.1.le_w
  have hcl : ∀ ro, (GSc b).RS ro → ∀ i, i < 5 → b + 423 ≤ (GSc b).ga ro i ∧ (GSc b).ga ro i < b + 611 := fun ro hr i hi => by
    have h1 := gl_cell (t0 := b + 423) (mr := 6) (mc := 5) hr hi
    have e : (GSc b).ga ro i = (GL (b + 423) 6 5).ga ro i := rfl
    omega
  have hpr : (GSc b).pr = b + 423 + 18 := rfl
  have hk := w_takeOff g d (D := DG (b + 423)) (G := GSc b) (K := KB w 1000) (C := C) (fr := fr) (to := to) (gso_S b X) hG (show h1 ≤ 6 by omega) (show w ≤ 5 by omega) (show w ≤ 10 by omega) ⟨hto.1, hto.2.1, hto.2.2⟩ hld hst (KB.one (by omega)) hC1 (hg.sm (by omega) hM).1 hC hT2 hAs hFa ⟨sab_r (by omega), sab_r (by omega), sab_r (by omega), sab_r (by omega)⟩ (fun j hj => ⟨us_asG (by omega) hj, by show b + 613 + 2 * j ≠ (GSc b).pr; rw [hpr]; omega, fun rr hrr i hi => by have := hcl rr hrr i hi; show b + 613 + 2 * j ≠ _; omega, fun i hi => by show b + 613 + 2 * j ≠ b + 635 + 2 * i; omega⟩) (fun j hj => ⟨us_faG (by omega) hj, by show b + 635 + 2 * j ≠ (GSc b).pr; rw [hpr]; omega, fun rr hrr i hi => by have := hcl rr hrr i hi; show b + 635 + 2 * j ≠ _; omega⟩) (fun i j _ _ hne => by show b + 613 + 2 * i ≠ b + 613 + 2 * j; omega) (fun i j _ _ hne => by show b + 635 + 2 * i ≠ b + 635 + 2 * j; omega) hw0 hD.2.2.1 (fun _ _ => rfl)
  refine hk.mono (fun r V' sz' mc ms q => ?_)
  obtain ⟨Z', P', L', ⟨q, hT, hres⟩, hs⟩ := q
  have hkv : ∀ a, SAB b X a → V' a = V a := fun a ha => hs.2.2.1 a ha (fun z => z)
  have hZl : ∀ x, x < b + 613 → x ≠ (GSc b).pr → Z' x = Z x := fun x hx hne => hT.2.2.2 x hne (fun j hj => by show x ≠ b + 613 + 2 * j; omega) (fun t ht => by show x ≠ b + 635 + 2 * t; omega)
  have hAm : ∀ i j, i < h1 → j < w → AM (GSc b) Z' ρ i j = AM (GSc b) Z ρ i j := fun i j hi hj => by
    have hc := hcl _ (hG.2.2.2.2.1 i (show i < 6 by omega)) j (by omega)
    exact hZl _ (by omega) ((gso_S b X).2.2.2.2.1 _ (hG.2.2.2.2.1 i (show i < 6 by omega)) j (show j < 5 by omega)).2.2
  refine ⟨Z', P', L', ⟨h.zs hkv (fun x hx => hZl x (by omega) (by rw [hpr]; omega)), ⟨hG.kept2 (fun a ha => hkv a (sab_gS ha).1), hld, hst.cong (fun i hi j hj => hAm i j hi hj), hsp.tr (SpEq.cong (fun i hi j hj => (hAm i j hi hj).symm))⟩, ⟨hkv, hZl, hAm, fun j hj1 hj2 => hT.2.2.2 _ (by show b + 613 + 2 * j ≠ (GSc b).pr; rw [hpr]; omega) (fun i hi => by show b + 613 + 2 * j ≠ b + 613 + 2 * i; omega) (fun t ht => by show b + 613 + 2 * j ≠ b + 635 + 2 * t; omega)⟩, q, hT.1, hT.2.1, hT.2.2.1, hres⟩, hs.weak (fun _ z => z.elim)⟩

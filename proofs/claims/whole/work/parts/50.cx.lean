/-! ===== the bench as it stands ===== -/
abbrev TSt : Type := (Nat → Nat) × (Nat → Nat) × (Nat → Nat → Int) × (Nat → Nat → Int)
abbrev TSt.r (S : TSt) : Nat → Nat := S.1
abbrev TSt.c (S : TSt) : Nat → Nat := S.2.1
abbrev TSt.N (S : TSt) : Nat → Nat → Int := S.2.2.1
abbrev TSt.H (S : TSt) : Nat → Nat → Int := S.2.2.2
/-- the ANSWER: whether anything was told, rows, columns, numbers -/
abbrev ASt : Type := Nat × Nat × Nat × Mat
abbrev ASt.t (A : ASt) : Nat := A.1
abbrev ASt.h (A : ASt) : Nat := A.2.1
abbrev ASt.w (A : ASt) : Nat := A.2.2.1
abbrev ASt.m (A : ASt) : Mat := A.2.2.2
def TOK (S : TSt) : Prop := ∀ t, t < 12 → S.r t ≤ 5 ∧ S.c t ≤ 5 ∧ (S.r t = 0 ∨ 1 ≤ S.c t) ∧ (∀ k, k < 25 → -1000 ≤ S.N t k ∧ S.N t k ≤ 1000) ∧ (∀ i, S.H t i = 0 ∨ S.H t i = 1) ∧ (∀ i j, i < 5 → j < 5 → S.r t ≤ i ∨ S.c t ≤ j ∨ S.H t i = 0 → S.N t (5 * i + j) = 0) ∧ ∀ i, i < 5 → S.r t ≤ i → S.H t i = 0
def AOK (A : ASt) : Prop := (A.t = 0 ∨ A.t = 1) ∧ A.h ≤ 10 ∧ A.w ≤ 5 ∧ (A.t = 0 → A.h = 0 ∧ A.w = 0)
abbrev bnO (b : Nat) (t : Int) : va_E := .inr (5, [.ref (b + 1), .ref (b + 2), .ref (b + 17), .int (iZ t), .ref (b + 144), .ref (b + 393), .ref (b + 472), .ref (b + 551), .ref (b + 573), .ref (b + 585), .ref (b + 586)])
theorem GD.kept2 {g : GX} {V V' : AH} {dk t0 mr mc hh w : Nat} {ld : Nat → Int} {ρ : Nat → Nat} (h : GD g V dk (GL t0 mr mc) hh w ld ρ) (hV : ∀ a, gsL t0 mr mc a → V' a = V a) : GD g V' dk (GL t0 mr mc) hh w ld ρ := by
  obtain ⟨h1, h2, h3, h4, h5⟩ := h
  refine ⟨(hV _ (Or.inl rfl)).trans h1, (hV _ (Or.inr (Or.inr (Or.inl rfl)))).trans h2, (hV _ (Or.inr (Or.inl rfl))).trans h3, fun ro hr => ?_, h5⟩
  obtain ⟨r, hr', e⟩ := id hr
  exact (h4 ro hr).kept (hV _ (Or.inr (Or.inr (Or.inr ⟨r, hr', Or.inl e⟩)))) (hV _ (Or.inr (Or.inr (Or.inr ⟨r, hr', Or.inr (by rw [e]; rfl)⟩))))
def GDx (g : GX) (V : AH) (dk : Nat) (G : GG) : Prop := ∃ (h w : Nat) (ld : Nat → Int) (ρ : Nat → Nat), GD g V dk G h w ld ρ
def CX (g : GX) (b : Nat) (X : Nat → Prop) (V : AH) (Z : Nat → Int) (S : TSt) (A : ASt) : Prop :=
  (V b = some (bnO b A.t) ∧ V (b + 1) = some (aQ g 3 12 (fun t => some (b + 587 + 3 * t)))) ∧ (∀ t, t < 12 → TbV g V (b + 587 + 3 * t) (b + 587 + 3 * t + 1) (b + 587 + 3 * t + 2) (S.r t) (S.c t) (S.N t) (S.H t)) ∧ TOK S ∧ DKV (wsB b) (SAB b X) V Z (DB b) ∧
  (∃ (ld : Nat → Int) (ρ : Nat → Nat), GD g V (b + 2) (GT b) A.h A.w ld ρ ∧ ∀ i j, i < A.h → j < A.w → AM (GT b) Z ρ i j = A.m i j) ∧ AOK A ∧ GDx g V (b + 2) (GWd b) ∧ GDx g V (b + 2) (GSc b) ∧ GDx g V (b + 2) (GTh b) ∧
  RowV g V (b + 551) (b + 552) 10 (fun j => b + 553 + 2 * j) ∧ RowV g V (b + 573) (b + 574) 5 (fun j => b + 575 + 2 * j) ∧ (∃ F : Nat → Int, V (b + 585) = some (aIz g 25 F)) ∧ ∃ F : Nat → Int, V (b + 586) = some (aJz g 32 F)
/-- the cells of the bench -/
def EB (b : Nat) : Nat → Prop := fun a => b ≤ a ∧ a < b + 623
/-- a change within a stretch of addresses -/
def Chg (b : Nat) (X : Nat → Prop) (lo hi : Nat) (V : AH) (Z : Nat → Int) (V' : AH) (Z' : Nat → Int) : Prop := (∀ a, SAB b X a → ¬ (lo ≤ a ∧ a < hi) → V' a = V a) ∧ ∀ x, ¬ (lo ≤ x ∧ x < hi) → Z' x = Z x
section CXS
variable {g : GX} {b : Nat} {X : Nat → Prop} {V V' : AH} {Z Z' : Nat → Int} {S : TSt} {A : ASt}
theorem sab_gT {a : Nat} (h : gsL (b + 17) 10 5 a) : SAB b X a ∧ b + 17 ≤ a ∧ a < b + 144 := ⟨Or.inr (Or.inr (Or.inr (Or.inl h))), by have := gs_in h; omega⟩
theorem sab_gW {a : Nat} (h : gsL (b + 144) 11 10 a) : SAB b X a ∧ b + 144 ≤ a ∧ a < b + 393 := ⟨Or.inr (Or.inr (Or.inr (Or.inr (Or.inl h)))), by have := gs_in h; omega⟩
theorem sab_gS {a : Nat} (h : gsL (b + 393) 6 5 a) : SAB b X a ∧ b + 393 ≤ a ∧ a < b + 472 := ⟨Or.inr (Or.inr (Or.inr (Or.inr (Or.inr (Or.inl h))))), by have := gs_in h; omega⟩
theorem sab_gH {a : Nat} (h : gsL (b + 472) 6 5 a) : SAB b X a ∧ b + 472 ≤ a ∧ a < b + 551 := ⟨Or.inr (Or.inr (Or.inr (Or.inr (Or.inr (Or.inr (Or.inl h)))))), by have := gs_in h; omega⟩
theorem sab_r {a : Nat} (h : a = b + 551 ∨ a = b + 552 ∨ a = b + 573 ∨ a = b + 574) : SAB b X a := Or.inr (Or.inr (Or.inr (Or.inr (Or.inr (Or.inr (Or.inr (Or.inl h)))))))
theorem sab_t {a : Nat} (h : b + 585 ≤ a ∧ a < b + 623) : SAB b X a := Or.inr (Or.inr (Or.inr (Or.inr (Or.inr (Or.inr (Or.inr (Or.inr (Or.inl h))))))))
theorem sab_x {a : Nat} (h : X a) : SAB b X a := Or.inr (Or.inr (Or.inr (Or.inr (Or.inr (Or.inr (Or.inr (Or.inr (Or.inr h))))))))

theorem CX.wide (h : CX g b X V Z S A) {lo hi : Nat} (hlo : lo = b + 144) (hhi : hi = b + 393) (hc : Chg b X lo hi V Z V' Z') (hn : GDx g V' (b + 2) (GWd b)) : CX g b X V' Z' S A := by
  obtain ⟨hB, hTb, hOk, hD, hT, hA, hW, hSc, hTh, hAs, hFa, hMa, hMi⟩ := h
  exact ⟨(⟨(hc.1 _ (Or.inl rfl) (by omega)).trans hB.1, (hc.1 _ (Or.inr (Or.inl rfl)) (by omega)).trans hB.2⟩), (fun t ht => (hTb t ht).kept (hc.1 _ (sab_t (by omega)) (by omega)) (hc.1 _ (sab_t (by omega)) (by omega)) (hc.1 _ (sab_t (by omega)) (by omega))), (hOk), (hD.kept (hc.1 _ (Or.inr (Or.inr (Or.inl rfl))) (show ¬ (lo ≤ b + 2 ∧ b + 2 < hi) by omega)) (hc.2 _ (show ¬ (lo ≤ b + 3 ∧ b + 3 < hi) by omega)) (hc.2 _ (show ¬ (lo ≤ b + 5 ∧ b + 5 < hi) by omega)) (hc.2 _ (show ¬ (lo ≤ b + 7 ∧ b + 7 < hi) by omega))), (by
    obtain ⟨ld, ρ, h1, h2⟩ := hT
    refine ⟨ld, ρ, h1.kept2 (fun a ha => hc.1 a (sab_gT ha).1 (by have := (sab_gT (X := X) ha).2; omega)), fun i j hi hj => ?_⟩
    rw [← h2 i j hi hj]
    have hRS := h1.2.2.2.2.1 i (show i < 10 by have := hA.2.1; omega)
    have h3 := gl_cell (t0 := b + 17) (mr := 10) (mc := 5) hRS (show j < 5 by have := hA.2.2.1; omega)
    exact hc.2 _ (by have h4 : b + 17 + 9 ≤ (GT b).ga (ρ i) j ∧ (GT b).ga (ρ i) j < b + 17 + 7 + (2 + 2 * 5) * 10 := h3; omega)), (hA), (hn), (by obtain ⟨h, w, ld, ρ, h1⟩ := hSc; exact ⟨h, w, ld, ρ, h1.kept2 (fun a ha => hc.1 a (sab_gS ha).1 (by have := (sab_gS (X := X) ha).2; omega))⟩), (by obtain ⟨h, w, ld, ρ, h1⟩ := hTh; exact ⟨h, w, ld, ρ, h1.kept2 (fun a ha => hc.1 a (sab_gH ha).1 (by have := (sab_gH (X := X) ha).2; omega))⟩), (hAs.kept (hc.1 _ (sab_r (by omega)) (by omega)) (hc.1 _ (sab_r (by omega)) (by omega))), (hFa.kept (hc.1 _ (sab_r (by omega)) (by omega)) (hc.1 _ (sab_r (by omega)) (by omega))), (by obtain ⟨F, h1⟩ := hMa; exact ⟨F, (hc.1 _ (sab_t (by omega)) (by omega)).trans h1⟩), (by obtain ⟨F, h1⟩ := hMi; exact ⟨F, (hc.1 _ (sab_t (by omega)) (by omega)).trans h1⟩)⟩
theorem CX.second (h : CX g b X V Z S A) {lo hi : Nat} (hlo : lo = b + 393) (hhi : hi = b + 472) (hc : Chg b X lo hi V Z V' Z') (hn : GDx g V' (b + 2) (GSc b)) : CX g b X V' Z' S A := by
  obtain ⟨hB, hTb, hOk, hD, hT, hA, hW, hSc, hTh, hAs, hFa, hMa, hMi⟩ := h
  exact ⟨(⟨(hc.1 _ (Or.inl rfl) (by omega)).trans hB.1, (hc.1 _ (Or.inr (Or.inl rfl)) (by omega)).trans hB.2⟩), (fun t ht => (hTb t ht).kept (hc.1 _ (sab_t (by omega)) (by omega)) (hc.1 _ (sab_t (by omega)) (by omega)) (hc.1 _ (sab_t (by omega)) (by omega))), (hOk), (hD.kept (hc.1 _ (Or.inr (Or.inr (Or.inl rfl))) (show ¬ (lo ≤ b + 2 ∧ b + 2 < hi) by omega)) (hc.2 _ (show ¬ (lo ≤ b + 3 ∧ b + 3 < hi) by omega)) (hc.2 _ (show ¬ (lo ≤ b + 5 ∧ b + 5 < hi) by omega)) (hc.2 _ (show ¬ (lo ≤ b + 7 ∧ b + 7 < hi) by omega))), (by
    obtain ⟨ld, ρ, h1, h2⟩ := hT
    refine ⟨ld, ρ, h1.kept2 (fun a ha => hc.1 a (sab_gT ha).1 (by have := (sab_gT (X := X) ha).2; omega)), fun i j hi hj => ?_⟩
    rw [← h2 i j hi hj]
    have hRS := h1.2.2.2.2.1 i (show i < 10 by have := hA.2.1; omega)
    have h3 := gl_cell (t0 := b + 17) (mr := 10) (mc := 5) hRS (show j < 5 by have := hA.2.2.1; omega)
    exact hc.2 _ (by have h4 : b + 17 + 9 ≤ (GT b).ga (ρ i) j ∧ (GT b).ga (ρ i) j < b + 17 + 7 + (2 + 2 * 5) * 10 := h3; omega)), (hA), (by obtain ⟨h, w, ld, ρ, h1⟩ := hW; exact ⟨h, w, ld, ρ, h1.kept2 (fun a ha => hc.1 a (sab_gW ha).1 (by have := (sab_gW (X := X) ha).2; omega))⟩), (hn), (by obtain ⟨h, w, ld, ρ, h1⟩ := hTh; exact ⟨h, w, ld, ρ, h1.kept2 (fun a ha => hc.1 a (sab_gH ha).1 (by have := (sab_gH (X := X) ha).2; omega))⟩), (hAs.kept (hc.1 _ (sab_r (by omega)) (by omega)) (hc.1 _ (sab_r (by omega)) (by omega))), (hFa.kept (hc.1 _ (sab_r (by omega)) (by omega)) (hc.1 _ (sab_r (by omega)) (by omega))), (by obtain ⟨F, h1⟩ := hMa; exact ⟨F, (hc.1 _ (sab_t (by omega)) (by omega)).trans h1⟩), (by obtain ⟨F, h1⟩ := hMi; exact ⟨F, (hc.1 _ (sab_t (by omega)) (by omega)).trans h1⟩)⟩
theorem CX.third (h : CX g b X V Z S A) {lo hi : Nat} (hlo : lo = b + 472) (hhi : hi = b + 551) (hc : Chg b X lo hi V Z V' Z') (hn : GDx g V' (b + 2) (GTh b)) : CX g b X V' Z' S A := by
  obtain ⟨hB, hTb, hOk, hD, hT, hA, hW, hSc, hTh, hAs, hFa, hMa, hMi⟩ := h
  exact ⟨(⟨(hc.1 _ (Or.inl rfl) (by omega)).trans hB.1, (hc.1 _ (Or.inr (Or.inl rfl)) (by omega)).trans hB.2⟩), (fun t ht => (hTb t ht).kept (hc.1 _ (sab_t (by omega)) (by omega)) (hc.1 _ (sab_t (by omega)) (by omega)) (hc.1 _ (sab_t (by omega)) (by omega))), (hOk), (hD.kept (hc.1 _ (Or.inr (Or.inr (Or.inl rfl))) (show ¬ (lo ≤ b + 2 ∧ b + 2 < hi) by omega)) (hc.2 _ (show ¬ (lo ≤ b + 3 ∧ b + 3 < hi) by omega)) (hc.2 _ (show ¬ (lo ≤ b + 5 ∧ b + 5 < hi) by omega)) (hc.2 _ (show ¬ (lo ≤ b + 7 ∧ b + 7 < hi) by omega))), (by
    obtain ⟨ld, ρ, h1, h2⟩ := hT
    refine ⟨ld, ρ, h1.kept2 (fun a ha => hc.1 a (sab_gT ha).1 (by have := (sab_gT (X := X) ha).2; omega)), fun i j hi hj => ?_⟩
    rw [← h2 i j hi hj]
    have hRS := h1.2.2.2.2.1 i (show i < 10 by have := hA.2.1; omega)
    have h3 := gl_cell (t0 := b + 17) (mr := 10) (mc := 5) hRS (show j < 5 by have := hA.2.2.1; omega)
    exact hc.2 _ (by have h4 : b + 17 + 9 ≤ (GT b).ga (ρ i) j ∧ (GT b).ga (ρ i) j < b + 17 + 7 + (2 + 2 * 5) * 10 := h3; omega)), (hA), (by obtain ⟨h, w, ld, ρ, h1⟩ := hW; exact ⟨h, w, ld, ρ, h1.kept2 (fun a ha => hc.1 a (sab_gW ha).1 (by have := (sab_gW (X := X) ha).2; omega))⟩), (by obtain ⟨h, w, ld, ρ, h1⟩ := hSc; exact ⟨h, w, ld, ρ, h1.kept2 (fun a ha => hc.1 a (sab_gS ha).1 (by have := (sab_gS (X := X) ha).2; omega))⟩), (hn), (hAs.kept (hc.1 _ (sab_r (by omega)) (by omega)) (hc.1 _ (sab_r (by omega)) (by omega))), (hFa.kept (hc.1 _ (sab_r (by omega)) (by omega)) (hc.1 _ (sab_r (by omega)) (by omega))), (by obtain ⟨F, h1⟩ := hMa; exact ⟨F, (hc.1 _ (sab_t (by omega)) (by omega)).trans h1⟩), (by obtain ⟨F, h1⟩ := hMi; exact ⟨F, (hc.1 _ (sab_t (by omega)) (by omega)).trans h1⟩)⟩
theorem CX.asked (h : CX g b X V Z S A) {lo hi : Nat} (hlo : lo = b + 553) (hhi : hi = b + 573) (hc : Chg b X lo hi V Z V' Z')  : CX g b X V' Z' S A := by
  obtain ⟨hB, hTb, hOk, hD, hT, hA, hW, hSc, hTh, hAs, hFa, hMa, hMi⟩ := h
  exact ⟨(⟨(hc.1 _ (Or.inl rfl) (by omega)).trans hB.1, (hc.1 _ (Or.inr (Or.inl rfl)) (by omega)).trans hB.2⟩), (fun t ht => (hTb t ht).kept (hc.1 _ (sab_t (by omega)) (by omega)) (hc.1 _ (sab_t (by omega)) (by omega)) (hc.1 _ (sab_t (by omega)) (by omega))), (hOk), (hD.kept (hc.1 _ (Or.inr (Or.inr (Or.inl rfl))) (show ¬ (lo ≤ b + 2 ∧ b + 2 < hi) by omega)) (hc.2 _ (show ¬ (lo ≤ b + 3 ∧ b + 3 < hi) by omega)) (hc.2 _ (show ¬ (lo ≤ b + 5 ∧ b + 5 < hi) by omega)) (hc.2 _ (show ¬ (lo ≤ b + 7 ∧ b + 7 < hi) by omega))), (by
    obtain ⟨ld, ρ, h1, h2⟩ := hT
    refine ⟨ld, ρ, h1.kept2 (fun a ha => hc.1 a (sab_gT ha).1 (by have := (sab_gT (X := X) ha).2; omega)), fun i j hi hj => ?_⟩
    rw [← h2 i j hi hj]
    have hRS := h1.2.2.2.2.1 i (show i < 10 by have := hA.2.1; omega)
    have h3 := gl_cell (t0 := b + 17) (mr := 10) (mc := 5) hRS (show j < 5 by have := hA.2.2.1; omega)
    exact hc.2 _ (by have h4 : b + 17 + 9 ≤ (GT b).ga (ρ i) j ∧ (GT b).ga (ρ i) j < b + 17 + 7 + (2 + 2 * 5) * 10 := h3; omega)), (hA), (by obtain ⟨h, w, ld, ρ, h1⟩ := hW; exact ⟨h, w, ld, ρ, h1.kept2 (fun a ha => hc.1 a (sab_gW ha).1 (by have := (sab_gW (X := X) ha).2; omega))⟩), (by obtain ⟨h, w, ld, ρ, h1⟩ := hSc; exact ⟨h, w, ld, ρ, h1.kept2 (fun a ha => hc.1 a (sab_gS ha).1 (by have := (sab_gS (X := X) ha).2; omega))⟩), (by obtain ⟨h, w, ld, ρ, h1⟩ := hTh; exact ⟨h, w, ld, ρ, h1.kept2 (fun a ha => hc.1 a (sab_gH ha).1 (by have := (sab_gH (X := X) ha).2; omega))⟩), (hAs.kept (hc.1 _ (sab_r (by omega)) (by omega)) (hc.1 _ (sab_r (by omega)) (by omega))), (hFa.kept (hc.1 _ (sab_r (by omega)) (by omega)) (hc.1 _ (sab_r (by omega)) (by omega))), (by obtain ⟨F, h1⟩ := hMa; exact ⟨F, (hc.1 _ (sab_t (by omega)) (by omega)).trans h1⟩), (by obtain ⟨F, h1⟩ := hMi; exact ⟨F, (hc.1 _ (sab_t (by omega)) (by omega)).trans h1⟩)⟩
theorem CX.factors (h : CX g b X V Z S A) {lo hi : Nat} (hlo : lo = b + 575) (hhi : hi = b + 585) (hc : Chg b X lo hi V Z V' Z')  : CX g b X V' Z' S A := by
  obtain ⟨hB, hTb, hOk, hD, hT, hA, hW, hSc, hTh, hAs, hFa, hMa, hMi⟩ := h
  exact ⟨(⟨(hc.1 _ (Or.inl rfl) (by omega)).trans hB.1, (hc.1 _ (Or.inr (Or.inl rfl)) (by omega)).trans hB.2⟩), (fun t ht => (hTb t ht).kept (hc.1 _ (sab_t (by omega)) (by omega)) (hc.1 _ (sab_t (by omega)) (by omega)) (hc.1 _ (sab_t (by omega)) (by omega))), (hOk), (hD.kept (hc.1 _ (Or.inr (Or.inr (Or.inl rfl))) (show ¬ (lo ≤ b + 2 ∧ b + 2 < hi) by omega)) (hc.2 _ (show ¬ (lo ≤ b + 3 ∧ b + 3 < hi) by omega)) (hc.2 _ (show ¬ (lo ≤ b + 5 ∧ b + 5 < hi) by omega)) (hc.2 _ (show ¬ (lo ≤ b + 7 ∧ b + 7 < hi) by omega))), (by
    obtain ⟨ld, ρ, h1, h2⟩ := hT
    refine ⟨ld, ρ, h1.kept2 (fun a ha => hc.1 a (sab_gT ha).1 (by have := (sab_gT (X := X) ha).2; omega)), fun i j hi hj => ?_⟩
    rw [← h2 i j hi hj]
    have hRS := h1.2.2.2.2.1 i (show i < 10 by have := hA.2.1; omega)
    have h3 := gl_cell (t0 := b + 17) (mr := 10) (mc := 5) hRS (show j < 5 by have := hA.2.2.1; omega)
    exact hc.2 _ (by have h4 : b + 17 + 9 ≤ (GT b).ga (ρ i) j ∧ (GT b).ga (ρ i) j < b + 17 + 7 + (2 + 2 * 5) * 10 := h3; omega)), (hA), (by obtain ⟨h, w, ld, ρ, h1⟩ := hW; exact ⟨h, w, ld, ρ, h1.kept2 (fun a ha => hc.1 a (sab_gW ha).1 (by have := (sab_gW (X := X) ha).2; omega))⟩), (by obtain ⟨h, w, ld, ρ, h1⟩ := hSc; exact ⟨h, w, ld, ρ, h1.kept2 (fun a ha => hc.1 a (sab_gS ha).1 (by have := (sab_gS (X := X) ha).2; omega))⟩), (by obtain ⟨h, w, ld, ρ, h1⟩ := hTh; exact ⟨h, w, ld, ρ, h1.kept2 (fun a ha => hc.1 a (sab_gH ha).1 (by have := (sab_gH (X := X) ha).2; omega))⟩), (hAs.kept (hc.1 _ (sab_r (by omega)) (by omega)) (hc.1 _ (sab_r (by omega)) (by omega))), (hFa.kept (hc.1 _ (sab_r (by omega)) (by omega)) (hc.1 _ (sab_r (by omega)) (by omega))), (by obtain ⟨F, h1⟩ := hMa; exact ⟨F, (hc.1 _ (sab_t (by omega)) (by omega)).trans h1⟩), (by obtain ⟨F, h1⟩ := hMi; exact ⟨F, (hc.1 _ (sab_t (by omega)) (by omega)).trans h1⟩)⟩
theorem CX.told (h : CX g b X V Z S A) {lo hi : Nat} (hlo : lo = b + 17) (hhi : hi = b + 144) (hc : Chg b X lo hi V Z V' Z') {A2 : ASt} (hb : V' b = some (bnO b A2.t)) (hA2 : AOK A2) (hn : ∃ (ld : Nat → Int) (ρ : Nat → Nat), GD g V' (b + 2) (GT b) A2.h A2.w ld ρ ∧ ∀ i j, i < A2.h → j < A2.w → AM (GT b) Z' ρ i j = A2.m i j) : CX g b X V' Z' S A2 := by
  obtain ⟨hB, hTb, hOk, hD, hT, hA, hW, hSc, hTh, hAs, hFa, hMa, hMi⟩ := h
  exact ⟨(⟨hb, (hc.1 _ (Or.inr (Or.inl rfl)) (by omega)).trans hB.2⟩), (fun t ht => (hTb t ht).kept (hc.1 _ (sab_t (by omega)) (by omega)) (hc.1 _ (sab_t (by omega)) (by omega)) (hc.1 _ (sab_t (by omega)) (by omega))), (hOk), (hD.kept (hc.1 _ (Or.inr (Or.inr (Or.inl rfl))) (show ¬ (lo ≤ b + 2 ∧ b + 2 < hi) by omega)) (hc.2 _ (show ¬ (lo ≤ b + 3 ∧ b + 3 < hi) by omega)) (hc.2 _ (show ¬ (lo ≤ b + 5 ∧ b + 5 < hi) by omega)) (hc.2 _ (show ¬ (lo ≤ b + 7 ∧ b + 7 < hi) by omega))), (hn), (hA2), (by obtain ⟨h, w, ld, ρ, h1⟩ := hW; exact ⟨h, w, ld, ρ, h1.kept2 (fun a ha => hc.1 a (sab_gW ha).1 (by have := (sab_gW (X := X) ha).2; omega))⟩), (by obtain ⟨h, w, ld, ρ, h1⟩ := hSc; exact ⟨h, w, ld, ρ, h1.kept2 (fun a ha => hc.1 a (sab_gS ha).1 (by have := (sab_gS (X := X) ha).2; omega))⟩), (by obtain ⟨h, w, ld, ρ, h1⟩ := hTh; exact ⟨h, w, ld, ρ, h1.kept2 (fun a ha => hc.1 a (sab_gH ha).1 (by have := (sab_gH (X := X) ha).2; omega))⟩), (hAs.kept (hc.1 _ (sab_r (by omega)) (by omega)) (hc.1 _ (sab_r (by omega)) (by omega))), (hFa.kept (hc.1 _ (sab_r (by omega)) (by omega)) (hc.1 _ (sab_r (by omega)) (by omega))), (by obtain ⟨F, h1⟩ := hMa; exact ⟨F, (hc.1 _ (sab_t (by omega)) (by omega)).trans h1⟩), (by obtain ⟨F, h1⟩ := hMi; exact ⟨F, (hc.1 _ (sab_t (by omega)) (by omega)).trans h1⟩)⟩
theorem CX.made (h : CX g b X V Z S A) {lo hi : Nat} (hlo : lo = b + 585) (hhi : hi = b + 586) (hc : Chg b X lo hi V Z V' Z') (hn : ∃ F : Nat → Int, V' (b + 585) = some (aIz g 25 F)) : CX g b X V' Z' S A := by
  obtain ⟨hB, hTb, hOk, hD, hT, hA, hW, hSc, hTh, hAs, hFa, hMa, hMi⟩ := h
  exact ⟨(⟨(hc.1 _ (Or.inl rfl) (by omega)).trans hB.1, (hc.1 _ (Or.inr (Or.inl rfl)) (by omega)).trans hB.2⟩), (fun t ht => (hTb t ht).kept (hc.1 _ (sab_t (by omega)) (by omega)) (hc.1 _ (sab_t (by omega)) (by omega)) (hc.1 _ (sab_t (by omega)) (by omega))), (hOk), (hD.kept (hc.1 _ (Or.inr (Or.inr (Or.inl rfl))) (show ¬ (lo ≤ b + 2 ∧ b + 2 < hi) by omega)) (hc.2 _ (show ¬ (lo ≤ b + 3 ∧ b + 3 < hi) by omega)) (hc.2 _ (show ¬ (lo ≤ b + 5 ∧ b + 5 < hi) by omega)) (hc.2 _ (show ¬ (lo ≤ b + 7 ∧ b + 7 < hi) by omega))), (by
    obtain ⟨ld, ρ, h1, h2⟩ := hT
    refine ⟨ld, ρ, h1.kept2 (fun a ha => hc.1 a (sab_gT ha).1 (by have := (sab_gT (X := X) ha).2; omega)), fun i j hi hj => ?_⟩
    rw [← h2 i j hi hj]
    have hRS := h1.2.2.2.2.1 i (show i < 10 by have := hA.2.1; omega)
    have h3 := gl_cell (t0 := b + 17) (mr := 10) (mc := 5) hRS (show j < 5 by have := hA.2.2.1; omega)
    exact hc.2 _ (by have h4 : b + 17 + 9 ≤ (GT b).ga (ρ i) j ∧ (GT b).ga (ρ i) j < b + 17 + 7 + (2 + 2 * 5) * 10 := h3; omega)), (hA), (by obtain ⟨h, w, ld, ρ, h1⟩ := hW; exact ⟨h, w, ld, ρ, h1.kept2 (fun a ha => hc.1 a (sab_gW ha).1 (by have := (sab_gW (X := X) ha).2; omega))⟩), (by obtain ⟨h, w, ld, ρ, h1⟩ := hSc; exact ⟨h, w, ld, ρ, h1.kept2 (fun a ha => hc.1 a (sab_gS ha).1 (by have := (sab_gS (X := X) ha).2; omega))⟩), (by obtain ⟨h, w, ld, ρ, h1⟩ := hTh; exact ⟨h, w, ld, ρ, h1.kept2 (fun a ha => hc.1 a (sab_gH ha).1 (by have := (sab_gH (X := X) ha).2; omega))⟩), (hAs.kept (hc.1 _ (sab_r (by omega)) (by omega)) (hc.1 _ (sab_r (by omega)) (by omega))), (hFa.kept (hc.1 _ (sab_r (by omega)) (by omega)) (hc.1 _ (sab_r (by omega)) (by omega))), (hn), (by obtain ⟨F, h1⟩ := hMi; exact ⟨F, (hc.1 _ (sab_t (by omega)) (by omega)).trans h1⟩)⟩
theorem CX.minors (h : CX g b X V Z S A) {lo hi : Nat} (hlo : lo = b + 586) (hhi : hi = b + 587) (hc : Chg b X lo hi V Z V' Z') (hn : ∃ F : Nat → Int, V' (b + 586) = some (aJz g 32 F)) : CX g b X V' Z' S A := by
  obtain ⟨hB, hTb, hOk, hD, hT, hA, hW, hSc, hTh, hAs, hFa, hMa, hMi⟩ := h
  exact ⟨(⟨(hc.1 _ (Or.inl rfl) (by omega)).trans hB.1, (hc.1 _ (Or.inr (Or.inl rfl)) (by omega)).trans hB.2⟩), (fun t ht => (hTb t ht).kept (hc.1 _ (sab_t (by omega)) (by omega)) (hc.1 _ (sab_t (by omega)) (by omega)) (hc.1 _ (sab_t (by omega)) (by omega))), (hOk), (hD.kept (hc.1 _ (Or.inr (Or.inr (Or.inl rfl))) (show ¬ (lo ≤ b + 2 ∧ b + 2 < hi) by omega)) (hc.2 _ (show ¬ (lo ≤ b + 3 ∧ b + 3 < hi) by omega)) (hc.2 _ (show ¬ (lo ≤ b + 5 ∧ b + 5 < hi) by omega)) (hc.2 _ (show ¬ (lo ≤ b + 7 ∧ b + 7 < hi) by omega))), (by
    obtain ⟨ld, ρ, h1, h2⟩ := hT
    refine ⟨ld, ρ, h1.kept2 (fun a ha => hc.1 a (sab_gT ha).1 (by have := (sab_gT (X := X) ha).2; omega)), fun i j hi hj => ?_⟩
    rw [← h2 i j hi hj]
    have hRS := h1.2.2.2.2.1 i (show i < 10 by have := hA.2.1; omega)
    have h3 := gl_cell (t0 := b + 17) (mr := 10) (mc := 5) hRS (show j < 5 by have := hA.2.2.1; omega)
    exact hc.2 _ (by have h4 : b + 17 + 9 ≤ (GT b).ga (ρ i) j ∧ (GT b).ga (ρ i) j < b + 17 + 7 + (2 + 2 * 5) * 10 := h3; omega)), (hA), (by obtain ⟨h, w, ld, ρ, h1⟩ := hW; exact ⟨h, w, ld, ρ, h1.kept2 (fun a ha => hc.1 a (sab_gW ha).1 (by have := (sab_gW (X := X) ha).2; omega))⟩), (by obtain ⟨h, w, ld, ρ, h1⟩ := hSc; exact ⟨h, w, ld, ρ, h1.kept2 (fun a ha => hc.1 a (sab_gS ha).1 (by have := (sab_gS (X := X) ha).2; omega))⟩), (by obtain ⟨h, w, ld, ρ, h1⟩ := hTh; exact ⟨h, w, ld, ρ, h1.kept2 (fun a ha => hc.1 a (sab_gH ha).1 (by have := (sab_gH (X := X) ha).2; omega))⟩), (hAs.kept (hc.1 _ (sab_r (by omega)) (by omega)) (hc.1 _ (sab_r (by omega)) (by omega))), (hFa.kept (hc.1 _ (sab_r (by omega)) (by omega)) (hc.1 _ (sab_r (by omega)) (by omega))), (by obtain ⟨F, h1⟩ := hMa; exact ⟨F, (hc.1 _ (sab_t (by omega)) (by omega)).trans h1⟩), (hn)⟩
theorem CX.tables (h : CX g b X V Z S A) {lo hi : Nat} (hlo : lo = b + 587) (hhi : hi = b + 623) (hc : Chg b X lo hi V Z V' Z') {S2 : TSt} (hS2 : TOK S2) (hn : ∀ t, t < 12 → TbV g V' (b + 587 + 3 * t) (b + 587 + 3 * t + 1) (b + 587 + 3 * t + 2) (S2.r t) (S2.c t) (S2.N t) (S2.H t)) : CX g b X V' Z' S2 A := by
  obtain ⟨hB, hTb, hOk, hD, hT, hA, hW, hSc, hTh, hAs, hFa, hMa, hMi⟩ := h
  exact ⟨(⟨(hc.1 _ (Or.inl rfl) (by omega)).trans hB.1, (hc.1 _ (Or.inr (Or.inl rfl)) (by omega)).trans hB.2⟩), (hn), (hS2), (hD.kept (hc.1 _ (Or.inr (Or.inr (Or.inl rfl))) (show ¬ (lo ≤ b + 2 ∧ b + 2 < hi) by omega)) (hc.2 _ (show ¬ (lo ≤ b + 3 ∧ b + 3 < hi) by omega)) (hc.2 _ (show ¬ (lo ≤ b + 5 ∧ b + 5 < hi) by omega)) (hc.2 _ (show ¬ (lo ≤ b + 7 ∧ b + 7 < hi) by omega))), (by
    obtain ⟨ld, ρ, h1, h2⟩ := hT
    refine ⟨ld, ρ, h1.kept2 (fun a ha => hc.1 a (sab_gT ha).1 (by have := (sab_gT (X := X) ha).2; omega)), fun i j hi hj => ?_⟩
    rw [← h2 i j hi hj]
    have hRS := h1.2.2.2.2.1 i (show i < 10 by have := hA.2.1; omega)
    have h3 := gl_cell (t0 := b + 17) (mr := 10) (mc := 5) hRS (show j < 5 by have := hA.2.2.1; omega)
    exact hc.2 _ (by have h4 : b + 17 + 9 ≤ (GT b).ga (ρ i) j ∧ (GT b).ga (ρ i) j < b + 17 + 7 + (2 + 2 * 5) * 10 := h3; omega)), (hA), (by obtain ⟨h, w, ld, ρ, h1⟩ := hW; exact ⟨h, w, ld, ρ, h1.kept2 (fun a ha => hc.1 a (sab_gW ha).1 (by have := (sab_gW (X := X) ha).2; omega))⟩), (by obtain ⟨h, w, ld, ρ, h1⟩ := hSc; exact ⟨h, w, ld, ρ, h1.kept2 (fun a ha => hc.1 a (sab_gS ha).1 (by have := (sab_gS (X := X) ha).2; omega))⟩), (by obtain ⟨h, w, ld, ρ, h1⟩ := hTh; exact ⟨h, w, ld, ρ, h1.kept2 (fun a ha => hc.1 a (sab_gH ha).1 (by have := (sab_gH (X := X) ha).2; omega))⟩), (hAs.kept (hc.1 _ (sab_r (by omega)) (by omega)) (hc.1 _ (sab_r (by omega)) (by omega))), (hFa.kept (hc.1 _ (sab_r (by omega)) (by omega)) (hc.1 _ (sab_r (by omega)) (by omega))), (by obtain ⟨F, h1⟩ := hMa; exact ⟨F, (hc.1 _ (sab_t (by omega)) (by omega)).trans h1⟩), (by obtain ⟨F, h1⟩ := hMi; exact ⟨F, (hc.1 _ (sab_t (by omega)) (by omega)).trans h1⟩)⟩
/-- a Grid's method has changed its own alone -/
theorem chg_g {t0 mr mc lo hi sz sz' : Nat} {L P' L' : Nat → Nat} {mc' ms' : Nat} (hlo : lo ≤ t0) (hhi : t0 + 7 + (2 + 2 * mc) * mr ≤ hi) (h : WSE g (wsB b) (SAB b X) (EG (GL t0 mr mc)) V sz L V' sz' Z' P' L' mc' ms') (hN : NF (GL t0 mr mc) Z Z') : Chg b X lo hi V Z V' Z' := by
  refine ⟨fun a ha hn => h.2.2.1 a ha (fun q => ?_), fun x hn => hN x (fun q => ?_) (fun q => ?_) (fun ro hr j hj q => ?_)⟩
  · have : a = t0 ∨ a = t0 + 6 ∨ a = t0 + 5 := q
    generalize (2 + 2 * mc) * mr = m at *
    omega
  · have : x = t0 + 1 := q
    generalize (2 + 2 * mc) * mr = m at *
    omega
  · have : x = t0 + 3 := q
    generalize (2 + 2 * mc) * mr = m at *
    omega
  · have := gl_cell hr hj
    rw [← q] at this
    generalize (2 + 2 * mc) * mr = m at *
    omega
end CXS

/-! ===== the bench as it stands ===== -/
abbrev TSt : Type := (Nat → Nat) × (Nat → Nat) × (Nat → Nat → Int) × (Nat → Nat → Int)
abbrev TSt.r (S : TSt) : Nat → Nat := S.1
abbrev TSt.c (S : TSt) : Nat → Nat := S.2.1
abbrev TSt.N (S : TSt) : Nat → Nat → Int := S.2.2.1
abbrev TSt.H (S : TSt) : Nat → Nat → Int := S.2.2.2
/-- the ANSWER: whether anything was told, rows, columns, numbers -/
abbrev ASt : Type := Nat × Nat × Nat × Mat
abbrev ASt.t (A : ASt) : Nat := A.1
abbrev ASt.h (A : ASt) : Nat := A.2.1
abbrev ASt.w (A : ASt) : Nat := A.2.2.1
abbrev ASt.m (A : ASt) : Mat := A.2.2.2
def TOK (S : TSt) : Prop := ∀ t, t < 12 → S.r t ≤ 5 ∧ S.c t ≤ 5 ∧ (S.r t = 0 ∨ 1 ≤ S.c t) ∧ (∀ k, k < 25 → -1000 ≤ S.N t k ∧ S.N t k ≤ 1000) ∧ (∀ i, S.H t i = 0 ∨ S.H t i = 1) ∧ (∀ i j, i < 5 → j < 5 → S.r t ≤ i ∨ S.c t ≤ j ∨ S.H t i = 0 → S.N t (5 * i + j) = 0) ∧ ∀ i, i < 5 → S.r t ≤ i → S.H t i = 0
def AOK (A : ASt) : Prop := (A.t = 0 ∨ A.t = 1) ∧ A.h ≤ 10 ∧ A.w ≤ 5 ∧ (A.t = 0 → A.h = 0 ∧ A.w = 0)
abbrev bnO (b : Nat) (t : Int) : va_E := .inr (5, [.ref (b + 1), .ref (b + 2), .ref (b + 17), .int (iZ t), .ref (b + 159), .ref (b + 423), .ref (b + 517), .ref (b + 611), .ref (b + 633), .ref (b + 645), .ref (b + 646)])
theorem GD.kept2 {g : GX} {V V' : AH} {dk t0 mr mc hh w : Nat} {ld : Nat → Int} {ρ : Nat → Nat} (h : GD g V dk (GL t0 mr mc) hh w ld ρ) (hV : ∀ a, gsL t0 mr mc a → V' a = V a) : GD g V' dk (GL t0 mr mc) hh w ld ρ := by
  obtain ⟨h1, h2, h3, h4, h5⟩ := h
  refine ⟨(hV _ (Or.inl rfl)).trans h1, (hV _ (Or.inr (Or.inr (Or.inl rfl)))).trans h2, (hV _ (Or.inr (Or.inl rfl))).trans h3, fun ro hr => ?_, h5⟩
  obtain ⟨r, hr', e⟩ := id hr
  exact (h4 ro hr).kept (hV _ (Or.inr (Or.inr (Or.inr ⟨r, hr', Or.inl e⟩)))) (hV _ (Or.inr (Or.inr (Or.inr ⟨r, hr', Or.inr (by rw [e]; rfl)⟩))))
theorem GD.keptD {g : GX} {ws : List Nat} {SA : Nat → Prop} {V V' : AH} {D : DT} {G : GG} {dk hh w : Nat} {ld : Nat → Int} {ρ : Nat → Nat} (hS : GSt ws SA D G) (h : GD g V dk G hh w ld ρ) (hV : ∀ a, SA a → V' a = V a) : GD g V' dk G hh w ld ρ := by
  obtain ⟨⟨s1, s2, s3⟩, -, -, s4, -⟩ := hS
  obtain ⟨h1, h2, h3, h4, h5⟩ := h
  exact ⟨(hV _ s1).trans h1, (hV _ s2).trans h2, (hV _ s3).trans h3, fun ro hr => (h4 ro hr).kept (hV _ (s4 ro hr).1) (hV _ (s4 ro hr).2.1), h5⟩
def GDx (g : GX) (V : AH) (dk : Nat) (G : GG) : Prop := ∃ (h w : Nat) (ld : Nat → Int) (ρ : Nat → Nat), GD g V dk G h w ld ρ
/-- the Desks: the bench's, and those of three Grids -/
def DKS (b : Nat) (X : Nat → Prop) (V : AH) (Z : Nat → Int) : Prop := DKV (wsB b) (SAB b X) V Z (DB b) ∧ DKV (wsB b) (SAB b X) V Z (DG (b + 159)) ∧ DKV (wsB b) (SAB b X) V Z (DG (b + 423)) ∧ DKV (wsB b) (SAB b X) V Z (DG (b + 517))
/-- the addresses of three Grids' own Desks -/
abbrev DK (b a : Nat) : Prop := (b + 160 ≤ a ∧ a < b + 175) ∨ (b + 424 ≤ a ∧ a < b + 439) ∨ (b + 518 ≤ a ∧ a < b + 533)
theorem DKS.keep {b : Nat} {X : Nat → Prop} {V V' : AH} {Z Z' : Nat → Int} (h : DKS b X V Z) (h1 : ∀ a, SAB b X a → a = b + 2 ∨ DK b a → V' a = V a) (h2 : ∀ x, (x = b + 3 ∨ x = b + 5 ∨ x = b + 7) ∨ DK b x → Z' x = Z x) : DKS b X V' Z' := by
  obtain ⟨k0, k1, k2, k3⟩ := h
  refine ⟨k0.kept (h1 _ k0.1 (Or.inl rfl)) (h2 _ (Or.inl (Or.inl rfl))) (h2 _ (Or.inl (Or.inr (Or.inl rfl)))) (h2 _ (Or.inl (Or.inr (Or.inr rfl)))), ?_, ?_, ?_⟩
  · exact k1.kept (h1 (b + 159 + 1) k1.1 (by omega)) (h2 (b + 159 + 2) (by omega)) (h2 (b + 159 + 4) (by omega)) (h2 (b + 159 + 6) (by omega))
  · exact k2.kept (h1 (b + 423 + 1) k2.1 (by omega)) (h2 (b + 423 + 2) (by omega)) (h2 (b + 423 + 4) (by omega)) (h2 (b + 423 + 6) (by omega))
  · exact k3.kept (h1 (b + 517 + 1) k3.1 (by omega)) (h2 (b + 517 + 2) (by omega)) (h2 (b + 517 + 4) (by omega)) (h2 (b + 517 + 6) (by omega))
def CX (g : GX) (b : Nat) (X : Nat → Prop) (V : AH) (Z : Nat → Int) (S : TSt) (A : ASt) : Prop :=
  (V b = some (bnO b A.t) ∧ V (b + 1) = some (aQ g 3 12 (fun t => some (b + 647 + 3 * t)))) ∧ (∀ t, t < 12 → TbV g V (b + 647 + 3 * t) (b + 647 + 3 * t + 1) (b + 647 + 3 * t + 2) (S.r t) (S.c t) (S.N t) (S.H t)) ∧ TOK S ∧ DKS b X V Z ∧
  (∃ (ld : Nat → Int) (ρ : Nat → Nat), GD g V (b + 17 + 1) (GT b) A.h A.w ld ρ ∧ ∀ i j, i < A.h → j < A.w → AM (GT b) Z ρ i j = A.m i j) ∧ AOK A ∧ GDx g V (b + 159 + 1) (GWd b) ∧ GDx g V (b + 423 + 1) (GSc b) ∧ GDx g V (b + 517 + 1) (GTh b) ∧
  RowV g V (b + 611) (b + 612) 10 (fun j => b + 613 + 2 * j) ∧ RowV g V (b + 633) (b + 634) 5 (fun j => b + 635 + 2 * j) ∧ (∃ F : Nat → Int, V (b + 645) = some (aIz g 25 F)) ∧ ∃ F : Nat → Int, V (b + 646) = some (aJz g 32 F)
/-- the cells of the bench -/
def EB (b : Nat) : Nat → Prop := fun a => b ≤ a ∧ a < b + 683
/-- a change within a stretch of addresses -/
def Chg (b : Nat) (X : Nat → Prop) (lo hi : Nat) (V : AH) (Z : Nat → Int) (V' : AH) (Z' : Nat → Int) : Prop := (∀ a, SAB b X a → ¬ (lo ≤ a ∧ a < hi) ∨ DK b a → V' a = V a) ∧ ∀ x, ¬ (lo ≤ x ∧ x < hi) ∨ DK b x → Z' x = Z x
section CXS
variable {g : GX} {b : Nat} {X : Nat → Prop} {V V' : AH} {Z Z' : Nat → Int} {S : TSt} {A : ASt}
theorem sab_gT {a : Nat} (h : gsL (b + 17) 10 5 a) : SAB b X a ∧ b + 17 ≤ a ∧ a < b + 159 := ⟨Or.inr (Or.inr (Or.inr (Or.inl h))), by have := gs_in h; omega⟩
theorem sab_gW {a : Nat} (h : gsL (b + 159) 11 10 a) : SAB b X a ∧ b + 159 ≤ a ∧ a < b + 423 := ⟨Or.inr (Or.inr (Or.inr (Or.inr (Or.inl h)))), by have := gs_in h; omega⟩
theorem sab_gS {a : Nat} (h : gsL (b + 423) 6 5 a) : SAB b X a ∧ b + 423 ≤ a ∧ a < b + 517 := ⟨Or.inr (Or.inr (Or.inr (Or.inr (Or.inr (Or.inl h))))), by have := gs_in h; omega⟩
theorem sab_gH {a : Nat} (h : gsL (b + 517) 6 5 a) : SAB b X a ∧ b + 517 ≤ a ∧ a < b + 611 := ⟨Or.inr (Or.inr (Or.inr (Or.inr (Or.inr (Or.inr (Or.inl h)))))), by have := gs_in h; omega⟩
theorem sab_r {a : Nat} (h : a = b + 611 ∨ a = b + 612 ∨ a = b + 633 ∨ a = b + 634 ∨ a = b + 18 ∨ a = b + 160 ∨ a = b + 424 ∨ a = b + 518) : SAB b X a := Or.inr (Or.inr (Or.inr (Or.inr (Or.inr (Or.inr (Or.inr (Or.inl h)))))))
theorem sab_t {a : Nat} (h : b + 645 ≤ a ∧ a < b + 683) : SAB b X a := Or.inr (Or.inr (Or.inr (Or.inr (Or.inr (Or.inr (Or.inr (Or.inr (Or.inl h))))))))
theorem sab_x {a : Nat} (h : X a) : SAB b X a := Or.inr (Or.inr (Or.inr (Or.inr (Or.inr (Or.inr (Or.inr (Or.inr (Or.inr h))))))))

theorem CX.wide (h : CX g b X V Z S A) {lo hi : Nat} (hlo : lo = b + 159) (hhi : hi = b + 423) (hc : Chg b X lo hi V Z V' Z') (hn : GDx g V' (b + 159 + 1) (GWd b)) : CX g b X V' Z' S A := by
  obtain ⟨hB, hTb, hOk, hD, hT, hA, hW, hSc, hTh, hAs, hFa, hMa, hMi⟩ := h
  exact ⟨(⟨(hc.1 _ (Or.inl rfl) (by omega)).trans hB.1, (hc.1 _ (Or.inr (Or.inl rfl)) (by omega)).trans hB.2⟩), (fun t ht => (hTb t ht).kept (hc.1 _ (sab_t (by omega)) (by omega)) (hc.1 _ (sab_t (by omega)) (by omega)) (hc.1 _ (sab_t (by omega)) (by omega))), (hOk), (hD.keep (fun a ha q => hc.1 a ha (by rcases q with q | q; (exact Or.inl (by omega)); (exact Or.inr q))) (fun x q => hc.2 x (by rcases q with q | q; (exact Or.inl (by omega)); (exact Or.inr q)))), (by
    obtain ⟨ld, ρ, h1, h2⟩ := hT
    refine ⟨ld, ρ, h1.kept2 (fun a ha => hc.1 a (sab_gT ha).1 (by have := (sab_gT (X := X) ha).2; omega)), fun i j hi hj => ?_⟩
    rw [← h2 i j hi hj]
    have hRS := h1.2.2.2.2.1 i (show i < 10 by have := hA.2.1; omega)
    have h3 := gl_cell (t0 := b + 17) (mr := 10) (mc := 5) hRS (show j < 5 by have := hA.2.2.1; omega)
    exact hc.2 _ (by have h4 : b + 17 + 24 ≤ (GT b).ga (ρ i) j ∧ (GT b).ga (ρ i) j < b + 17 + 22 + (2 + 2 * 5) * 10 := h3; omega)), (hA), (hn), (by obtain ⟨h, w, ld, ρ, h1⟩ := hSc; exact ⟨h, w, ld, ρ, h1.kept2 (fun a ha => hc.1 a (sab_gS ha).1 (by have := (sab_gS (X := X) ha).2; omega))⟩), (by obtain ⟨h, w, ld, ρ, h1⟩ := hTh; exact ⟨h, w, ld, ρ, h1.kept2 (fun a ha => hc.1 a (sab_gH ha).1 (by have := (sab_gH (X := X) ha).2; omega))⟩), (hAs.kept (hc.1 _ (sab_r (by omega)) (by omega)) (hc.1 _ (sab_r (by omega)) (by omega))), (hFa.kept (hc.1 _ (sab_r (by omega)) (by omega)) (hc.1 _ (sab_r (by omega)) (by omega))), (by obtain ⟨F, h1⟩ := hMa; exact ⟨F, (hc.1 _ (sab_t (by omega)) (by omega)).trans h1⟩), (by obtain ⟨F, h1⟩ := hMi; exact ⟨F, (hc.1 _ (sab_t (by omega)) (by omega)).trans h1⟩)⟩
theorem CX.second (h : CX g b X V Z S A) {lo hi : Nat} (hlo : lo = b + 423) (hhi : hi = b + 517) (hc : Chg b X lo hi V Z V' Z') (hn : GDx g V' (b + 423 + 1) (GSc b)) : CX g b X V' Z' S A := by
  obtain ⟨hB, hTb, hOk, hD, hT, hA, hW, hSc, hTh, hAs, hFa, hMa, hMi⟩ := h
  exact ⟨(⟨(hc.1 _ (Or.inl rfl) (by omega)).trans hB.1, (hc.1 _ (Or.inr (Or.inl rfl)) (by omega)).trans hB.2⟩), (fun t ht => (hTb t ht).kept (hc.1 _ (sab_t (by omega)) (by omega)) (hc.1 _ (sab_t (by omega)) (by omega)) (hc.1 _ (sab_t (by omega)) (by omega))), (hOk), (hD.keep (fun a ha q => hc.1 a ha (by rcases q with q | q; (exact Or.inl (by omega)); (exact Or.inr q))) (fun x q => hc.2 x (by rcases q with q | q; (exact Or.inl (by omega)); (exact Or.inr q)))), (by
    obtain ⟨ld, ρ, h1, h2⟩ := hT
    refine ⟨ld, ρ, h1.kept2 (fun a ha => hc.1 a (sab_gT ha).1 (by have := (sab_gT (X := X) ha).2; omega)), fun i j hi hj => ?_⟩
    rw [← h2 i j hi hj]
    have hRS := h1.2.2.2.2.1 i (show i < 10 by have := hA.2.1; omega)
    have h3 := gl_cell (t0 := b + 17) (mr := 10) (mc := 5) hRS (show j < 5 by have := hA.2.2.1; omega)
    exact hc.2 _ (by have h4 : b + 17 + 24 ≤ (GT b).ga (ρ i) j ∧ (GT b).ga (ρ i) j < b + 17 + 22 + (2 + 2 * 5) * 10 := h3; omega)), (hA), (by obtain ⟨h, w, ld, ρ, h1⟩ := hW; exact ⟨h, w, ld, ρ, h1.kept2 (fun a ha => hc.1 a (sab_gW ha).1 (by have := (sab_gW (X := X) ha).2; omega))⟩), (hn), (by obtain ⟨h, w, ld, ρ, h1⟩ := hTh; exact ⟨h, w, ld, ρ, h1.kept2 (fun a ha => hc.1 a (sab_gH ha).1 (by have := (sab_gH (X := X) ha).2; omega))⟩), (hAs.kept (hc.1 _ (sab_r (by omega)) (by omega)) (hc.1 _ (sab_r (by omega)) (by omega))), (hFa.kept (hc.1 _ (sab_r (by omega)) (by omega)) (hc.1 _ (sab_r (by omega)) (by omega))), (by obtain ⟨F, h1⟩ := hMa; exact ⟨F, (hc.1 _ (sab_t (by omega)) (by omega)).trans h1⟩), (by obtain ⟨F, h1⟩ := hMi; exact ⟨F, (hc.1 _ (sab_t (by omega)) (by omega)).trans h1⟩)⟩
theorem CX.third (h : CX g b X V Z S A) {lo hi : Nat} (hlo : lo = b + 517) (hhi : hi = b + 611) (hc : Chg b X lo hi V Z V' Z') (hn : GDx g V' (b + 517 + 1) (GTh b)) : CX g b X V' Z' S A := by
  obtain ⟨hB, hTb, hOk, hD, hT, hA, hW, hSc, hTh, hAs, hFa, hMa, hMi⟩ := h
  exact ⟨(⟨(hc.1 _ (Or.inl rfl) (by omega)).trans hB.1, (hc.1 _ (Or.inr (Or.inl rfl)) (by omega)).trans hB.2⟩), (fun t ht => (hTb t ht).kept (hc.1 _ (sab_t (by omega)) (by omega)) (hc.1 _ (sab_t (by omega)) (by omega)) (hc.1 _ (sab_t (by omega)) (by omega))), (hOk), (hD.keep (fun a ha q => hc.1 a ha (by rcases q with q | q; (exact Or.inl (by omega)); (exact Or.inr q))) (fun x q => hc.2 x (by rcases q with q | q; (exact Or.inl (by omega)); (exact Or.inr q)))), (by
    obtain ⟨ld, ρ, h1, h2⟩ := hT
    refine ⟨ld, ρ, h1.kept2 (fun a ha => hc.1 a (sab_gT ha).1 (by have := (sab_gT (X := X) ha).2; omega)), fun i j hi hj => ?_⟩
    rw [← h2 i j hi hj]
    have hRS := h1.2.2.2.2.1 i (show i < 10 by have := hA.2.1; omega)
    have h3 := gl_cell (t0 := b + 17) (mr := 10) (mc := 5) hRS (show j < 5 by have := hA.2.2.1; omega)
    exact hc.2 _ (by have h4 : b + 17 + 24 ≤ (GT b).ga (ρ i) j ∧ (GT b).ga (ρ i) j < b + 17 + 22 + (2 + 2 * 5) * 10 := h3; omega)), (hA), (by obtain ⟨h, w, ld, ρ, h1⟩ := hW; exact ⟨h, w, ld, ρ, h1.kept2 (fun a ha => hc.1 a (sab_gW ha).1 (by have := (sab_gW (X := X) ha).2; omega))⟩), (by obtain ⟨h, w, ld, ρ, h1⟩ := hSc; exact ⟨h, w, ld, ρ, h1.kept2 (fun a ha => hc.1 a (sab_gS ha).1 (by have := (sab_gS (X := X) ha).2; omega))⟩), (hn), (hAs.kept (hc.1 _ (sab_r (by omega)) (by omega)) (hc.1 _ (sab_r (by omega)) (by omega))), (hFa.kept (hc.1 _ (sab_r (by omega)) (by omega)) (hc.1 _ (sab_r (by omega)) (by omega))), (by obtain ⟨F, h1⟩ := hMa; exact ⟨F, (hc.1 _ (sab_t (by omega)) (by omega)).trans h1⟩), (by obtain ⟨F, h1⟩ := hMi; exact ⟨F, (hc.1 _ (sab_t (by omega)) (by omega)).trans h1⟩)⟩
theorem CX.asked (h : CX g b X V Z S A) {lo hi : Nat} (hlo : lo = b + 613) (hhi : hi = b + 633) (hc : Chg b X lo hi V Z V' Z')  : CX g b X V' Z' S A := by
  obtain ⟨hB, hTb, hOk, hD, hT, hA, hW, hSc, hTh, hAs, hFa, hMa, hMi⟩ := h
  exact ⟨(⟨(hc.1 _ (Or.inl rfl) (by omega)).trans hB.1, (hc.1 _ (Or.inr (Or.inl rfl)) (by omega)).trans hB.2⟩), (fun t ht => (hTb t ht).kept (hc.1 _ (sab_t (by omega)) (by omega)) (hc.1 _ (sab_t (by omega)) (by omega)) (hc.1 _ (sab_t (by omega)) (by omega))), (hOk), (hD.keep (fun a ha q => hc.1 a ha (by rcases q with q | q; (exact Or.inl (by omega)); (exact Or.inr q))) (fun x q => hc.2 x (by rcases q with q | q; (exact Or.inl (by omega)); (exact Or.inr q)))), (by
    obtain ⟨ld, ρ, h1, h2⟩ := hT
    refine ⟨ld, ρ, h1.kept2 (fun a ha => hc.1 a (sab_gT ha).1 (by have := (sab_gT (X := X) ha).2; omega)), fun i j hi hj => ?_⟩
    rw [← h2 i j hi hj]
    have hRS := h1.2.2.2.2.1 i (show i < 10 by have := hA.2.1; omega)
    have h3 := gl_cell (t0 := b + 17) (mr := 10) (mc := 5) hRS (show j < 5 by have := hA.2.2.1; omega)
    exact hc.2 _ (by have h4 : b + 17 + 24 ≤ (GT b).ga (ρ i) j ∧ (GT b).ga (ρ i) j < b + 17 + 22 + (2 + 2 * 5) * 10 := h3; omega)), (hA), (by obtain ⟨h, w, ld, ρ, h1⟩ := hW; exact ⟨h, w, ld, ρ, h1.kept2 (fun a ha => hc.1 a (sab_gW ha).1 (by have := (sab_gW (X := X) ha).2; omega))⟩), (by obtain ⟨h, w, ld, ρ, h1⟩ := hSc; exact ⟨h, w, ld, ρ, h1.kept2 (fun a ha => hc.1 a (sab_gS ha).1 (by have := (sab_gS (X := X) ha).2; omega))⟩), (by obtain ⟨h, w, ld, ρ, h1⟩ := hTh; exact ⟨h, w, ld, ρ, h1.kept2 (fun a ha => hc.1 a (sab_gH ha).1 (by have := (sab_gH (X := X) ha).2; omega))⟩), (hAs.kept (hc.1 _ (sab_r (by omega)) (by omega)) (hc.1 _ (sab_r (by omega)) (by omega))), (hFa.kept (hc.1 _ (sab_r (by omega)) (by omega)) (hc.1 _ (sab_r (by omega)) (by omega))), (by obtain ⟨F, h1⟩ := hMa; exact ⟨F, (hc.1 _ (sab_t (by omega)) (by omega)).trans h1⟩), (by obtain ⟨F, h1⟩ := hMi; exact ⟨F, (hc.1 _ (sab_t (by omega)) (by omega)).trans h1⟩)⟩
theorem CX.factors (h : CX g b X V Z S A) {lo hi : Nat} (hlo : lo = b + 635) (hhi : hi = b + 645) (hc : Chg b X lo hi V Z V' Z')  : CX g b X V' Z' S A := by
  obtain ⟨hB, hTb, hOk, hD, hT, hA, hW, hSc, hTh, hAs, hFa, hMa, hMi⟩ := h
  exact ⟨(⟨(hc.1 _ (Or.inl rfl) (by omega)).trans hB.1, (hc.1 _ (Or.inr (Or.inl rfl)) (by omega)).trans hB.2⟩), (fun t ht => (hTb t ht).kept (hc.1 _ (sab_t (by omega)) (by omega)) (hc.1 _ (sab_t (by omega)) (by omega)) (hc.1 _ (sab_t (by omega)) (by omega))), (hOk), (hD.keep (fun a ha q => hc.1 a ha (by rcases q with q | q; (exact Or.inl (by omega)); (exact Or.inr q))) (fun x q => hc.2 x (by rcases q with q | q; (exact Or.inl (by omega)); (exact Or.inr q)))), (by
    obtain ⟨ld, ρ, h1, h2⟩ := hT
    refine ⟨ld, ρ, h1.kept2 (fun a ha => hc.1 a (sab_gT ha).1 (by have := (sab_gT (X := X) ha).2; omega)), fun i j hi hj => ?_⟩
    rw [← h2 i j hi hj]
    have hRS := h1.2.2.2.2.1 i (show i < 10 by have := hA.2.1; omega)
    have h3 := gl_cell (t0 := b + 17) (mr := 10) (mc := 5) hRS (show j < 5 by have := hA.2.2.1; omega)
    exact hc.2 _ (by have h4 : b + 17 + 24 ≤ (GT b).ga (ρ i) j ∧ (GT b).ga (ρ i) j < b + 17 + 22 + (2 + 2 * 5) * 10 := h3; omega)), (hA), (by obtain ⟨h, w, ld, ρ, h1⟩ := hW; exact ⟨h, w, ld, ρ, h1.kept2 (fun a ha => hc.1 a (sab_gW ha).1 (by have := (sab_gW (X := X) ha).2; omega))⟩), (by obtain ⟨h, w, ld, ρ, h1⟩ := hSc; exact ⟨h, w, ld, ρ, h1.kept2 (fun a ha => hc.1 a (sab_gS ha).1 (by have := (sab_gS (X := X) ha).2; omega))⟩), (by obtain ⟨h, w, ld, ρ, h1⟩ := hTh; exact ⟨h, w, ld, ρ, h1.kept2 (fun a ha => hc.1 a (sab_gH ha).1 (by have := (sab_gH (X := X) ha).2; omega))⟩), (hAs.kept (hc.1 _ (sab_r (by omega)) (by omega)) (hc.1 _ (sab_r (by omega)) (by omega))), (hFa.kept (hc.1 _ (sab_r (by omega)) (by omega)) (hc.1 _ (sab_r (by omega)) (by omega))), (by obtain ⟨F, h1⟩ := hMa; exact ⟨F, (hc.1 _ (sab_t (by omega)) (by omega)).trans h1⟩), (by obtain ⟨F, h1⟩ := hMi; exact ⟨F, (hc.1 _ (sab_t (by omega)) (by omega)).trans h1⟩)⟩
theorem CX.told (h : CX g b X V Z S A) {lo hi : Nat} (hlo : lo = b + 17) (hhi : hi = b + 159) (hc : Chg b X lo hi V Z V' Z') {A2 : ASt} (hb : V' b = some (bnO b A2.t)) (hA2 : AOK A2) (hn : ∃ (ld : Nat → Int) (ρ : Nat → Nat), GD g V' (b + 17 + 1) (GT b) A2.h A2.w ld ρ ∧ ∀ i j, i < A2.h → j < A2.w → AM (GT b) Z' ρ i j = A2.m i j) : CX g b X V' Z' S A2 := by
  obtain ⟨hB, hTb, hOk, hD, hT, hA, hW, hSc, hTh, hAs, hFa, hMa, hMi⟩ := h
  exact ⟨(⟨hb, (hc.1 _ (Or.inr (Or.inl rfl)) (by omega)).trans hB.2⟩), (fun t ht => (hTb t ht).kept (hc.1 _ (sab_t (by omega)) (by omega)) (hc.1 _ (sab_t (by omega)) (by omega)) (hc.1 _ (sab_t (by omega)) (by omega))), (hOk), (hD.keep (fun a ha q => hc.1 a ha (by rcases q with q | q; (exact Or.inl (by omega)); (exact Or.inr q))) (fun x q => hc.2 x (by rcases q with q | q; (exact Or.inl (by omega)); (exact Or.inr q)))), (hn), (hA2), (by obtain ⟨h, w, ld, ρ, h1⟩ := hW; exact ⟨h, w, ld, ρ, h1.kept2 (fun a ha => hc.1 a (sab_gW ha).1 (by have := (sab_gW (X := X) ha).2; omega))⟩), (by obtain ⟨h, w, ld, ρ, h1⟩ := hSc; exact ⟨h, w, ld, ρ, h1.kept2 (fun a ha => hc.1 a (sab_gS ha).1 (by have := (sab_gS (X := X) ha).2; omega))⟩), (by obtain ⟨h, w, ld, ρ, h1⟩ := hTh; exact ⟨h, w, ld, ρ, h1.kept2 (fun a ha => hc.1 a (sab_gH ha).1 (by have := (sab_gH (X := X) ha).2; omega))⟩), (hAs.kept (hc.1 _ (sab_r (by omega)) (by omega)) (hc.1 _ (sab_r (by omega)) (by omega))), (hFa.kept (hc.1 _ (sab_r (by omega)) (by omega)) (hc.1 _ (sab_r (by omega)) (by omega))), (by obtain ⟨F, h1⟩ := hMa; exact ⟨F, (hc.1 _ (sab_t (by omega)) (by omega)).trans h1⟩), (by obtain ⟨F, h1⟩ := hMi; exact ⟨F, (hc.1 _ (sab_t (by omega)) (by omega)).trans h1⟩)⟩
theorem CX.made (h : CX g b X V Z S A) {lo hi : Nat} (hlo : lo = b + 645) (hhi : hi = b + 646) (hc : Chg b X lo hi V Z V' Z') (hn : ∃ F : Nat → Int, V' (b + 645) = some (aIz g 25 F)) : CX g b X V' Z' S A := by
  obtain ⟨hB, hTb, hOk, hD, hT, hA, hW, hSc, hTh, hAs, hFa, hMa, hMi⟩ := h
  exact ⟨(⟨(hc.1 _ (Or.inl rfl) (by omega)).trans hB.1, (hc.1 _ (Or.inr (Or.inl rfl)) (by omega)).trans hB.2⟩), (fun t ht => (hTb t ht).kept (hc.1 _ (sab_t (by omega)) (by omega)) (hc.1 _ (sab_t (by omega)) (by omega)) (hc.1 _ (sab_t (by omega)) (by omega))), (hOk), (hD.keep (fun a ha q => hc.1 a ha (by rcases q with q | q; (exact Or.inl (by omega)); (exact Or.inr q))) (fun x q => hc.2 x (by rcases q with q | q; (exact Or.inl (by omega)); (exact Or.inr q)))), (by
    obtain ⟨ld, ρ, h1, h2⟩ := hT
    refine ⟨ld, ρ, h1.kept2 (fun a ha => hc.1 a (sab_gT ha).1 (by have := (sab_gT (X := X) ha).2; omega)), fun i j hi hj => ?_⟩
    rw [← h2 i j hi hj]
    have hRS := h1.2.2.2.2.1 i (show i < 10 by have := hA.2.1; omega)
    have h3 := gl_cell (t0 := b + 17) (mr := 10) (mc := 5) hRS (show j < 5 by have := hA.2.2.1; omega)
    exact hc.2 _ (by have h4 : b + 17 + 24 ≤ (GT b).ga (ρ i) j ∧ (GT b).ga (ρ i) j < b + 17 + 22 + (2 + 2 * 5) * 10 := h3; omega)), (hA), (by obtain ⟨h, w, ld, ρ, h1⟩ := hW; exact ⟨h, w, ld, ρ, h1.kept2 (fun a ha => hc.1 a (sab_gW ha).1 (by have := (sab_gW (X := X) ha).2; omega))⟩), (by obtain ⟨h, w, ld, ρ, h1⟩ := hSc; exact ⟨h, w, ld, ρ, h1.kept2 (fun a ha => hc.1 a (sab_gS ha).1 (by have := (sab_gS (X := X) ha).2; omega))⟩), (by obtain ⟨h, w, ld, ρ, h1⟩ := hTh; exact ⟨h, w, ld, ρ, h1.kept2 (fun a ha => hc.1 a (sab_gH ha).1 (by have := (sab_gH (X := X) ha).2; omega))⟩), (hAs.kept (hc.1 _ (sab_r (by omega)) (by omega)) (hc.1 _ (sab_r (by omega)) (by omega))), (hFa.kept (hc.1 _ (sab_r (by omega)) (by omega)) (hc.1 _ (sab_r (by omega)) (by omega))), (hn), (by obtain ⟨F, h1⟩ := hMi; exact ⟨F, (hc.1 _ (sab_t (by omega)) (by omega)).trans h1⟩)⟩
theorem CX.minors (h : CX g b X V Z S A) {lo hi : Nat} (hlo : lo = b + 646) (hhi : hi = b + 647) (hc : Chg b X lo hi V Z V' Z') (hn : ∃ F : Nat → Int, V' (b + 646) = some (aJz g 32 F)) : CX g b X V' Z' S A := by
  obtain ⟨hB, hTb, hOk, hD, hT, hA, hW, hSc, hTh, hAs, hFa, hMa, hMi⟩ := h
  exact ⟨(⟨(hc.1 _ (Or.inl rfl) (by omega)).trans hB.1, (hc.1 _ (Or.inr (Or.inl rfl)) (by omega)).trans hB.2⟩), (fun t ht => (hTb t ht).kept (hc.1 _ (sab_t (by omega)) (by omega)) (hc.1 _ (sab_t (by omega)) (by omega)) (hc.1 _ (sab_t (by omega)) (by omega))), (hOk), (hD.keep (fun a ha q => hc.1 a ha (by rcases q with q | q; (exact Or.inl (by omega)); (exact Or.inr q))) (fun x q => hc.2 x (by rcases q with q | q; (exact Or.inl (by omega)); (exact Or.inr q)))), (by
    obtain ⟨ld, ρ, h1, h2⟩ := hT
    refine ⟨ld, ρ, h1.kept2 (fun a ha => hc.1 a (sab_gT ha).1 (by have := (sab_gT (X := X) ha).2; omega)), fun i j hi hj => ?_⟩
    rw [← h2 i j hi hj]
    have hRS := h1.2.2.2.2.1 i (show i < 10 by have := hA.2.1; omega)
    have h3 := gl_cell (t0 := b + 17) (mr := 10) (mc := 5) hRS (show j < 5 by have := hA.2.2.1; omega)
    exact hc.2 _ (by have h4 : b + 17 + 24 ≤ (GT b).ga (ρ i) j ∧ (GT b).ga (ρ i) j < b + 17 + 22 + (2 + 2 * 5) * 10 := h3; omega)), (hA), (by obtain ⟨h, w, ld, ρ, h1⟩ := hW; exact ⟨h, w, ld, ρ, h1.kept2 (fun a ha => hc.1 a (sab_gW ha).1 (by have := (sab_gW (X := X) ha).2; omega))⟩), (by obtain ⟨h, w, ld, ρ, h1⟩ := hSc; exact ⟨h, w, ld, ρ, h1.kept2 (fun a ha => hc.1 a (sab_gS ha).1 (by have := (sab_gS (X := X) ha).2; omega))⟩), (by obtain ⟨h, w, ld, ρ, h1⟩ := hTh; exact ⟨h, w, ld, ρ, h1.kept2 (fun a ha => hc.1 a (sab_gH ha).1 (by have := (sab_gH (X := X) ha).2; omega))⟩), (hAs.kept (hc.1 _ (sab_r (by omega)) (by omega)) (hc.1 _ (sab_r (by omega)) (by omega))), (hFa.kept (hc.1 _ (sab_r (by omega)) (by omega)) (hc.1 _ (sab_r (by omega)) (by omega))), (by obtain ⟨F, h1⟩ := hMa; exact ⟨F, (hc.1 _ (sab_t (by omega)) (by omega)).trans h1⟩), (hn)⟩
theorem CX.tables (h : CX g b X V Z S A) {lo hi : Nat} (hlo : lo = b + 647) (hhi : hi = b + 683) (hc : Chg b X lo hi V Z V' Z') {S2 : TSt} (hS2 : TOK S2) (hn : ∀ t, t < 12 → TbV g V' (b + 647 + 3 * t) (b + 647 + 3 * t + 1) (b + 647 + 3 * t + 2) (S2.r t) (S2.c t) (S2.N t) (S2.H t)) : CX g b X V' Z' S2 A := by
  obtain ⟨hB, hTb, hOk, hD, hT, hA, hW, hSc, hTh, hAs, hFa, hMa, hMi⟩ := h
  exact ⟨(⟨(hc.1 _ (Or.inl rfl) (by omega)).trans hB.1, (hc.1 _ (Or.inr (Or.inl rfl)) (by omega)).trans hB.2⟩), (hn), (hS2), (hD.keep (fun a ha q => hc.1 a ha (by rcases q with q | q; (exact Or.inl (by omega)); (exact Or.inr q))) (fun x q => hc.2 x (by rcases q with q | q; (exact Or.inl (by omega)); (exact Or.inr q)))), (by
    obtain ⟨ld, ρ, h1, h2⟩ := hT
    refine ⟨ld, ρ, h1.kept2 (fun a ha => hc.1 a (sab_gT ha).1 (by have := (sab_gT (X := X) ha).2; omega)), fun i j hi hj => ?_⟩
    rw [← h2 i j hi hj]
    have hRS := h1.2.2.2.2.1 i (show i < 10 by have := hA.2.1; omega)
    have h3 := gl_cell (t0 := b + 17) (mr := 10) (mc := 5) hRS (show j < 5 by have := hA.2.2.1; omega)
    exact hc.2 _ (by have h4 : b + 17 + 24 ≤ (GT b).ga (ρ i) j ∧ (GT b).ga (ρ i) j < b + 17 + 22 + (2 + 2 * 5) * 10 := h3; omega)), (hA), (by obtain ⟨h, w, ld, ρ, h1⟩ := hW; exact ⟨h, w, ld, ρ, h1.kept2 (fun a ha => hc.1 a (sab_gW ha).1 (by have := (sab_gW (X := X) ha).2; omega))⟩), (by obtain ⟨h, w, ld, ρ, h1⟩ := hSc; exact ⟨h, w, ld, ρ, h1.kept2 (fun a ha => hc.1 a (sab_gS ha).1 (by have := (sab_gS (X := X) ha).2; omega))⟩), (by obtain ⟨h, w, ld, ρ, h1⟩ := hTh; exact ⟨h, w, ld, ρ, h1.kept2 (fun a ha => hc.1 a (sab_gH ha).1 (by have := (sab_gH (X := X) ha).2; omega))⟩), (hAs.kept (hc.1 _ (sab_r (by omega)) (by omega)) (hc.1 _ (sab_r (by omega)) (by omega))), (hFa.kept (hc.1 _ (sab_r (by omega)) (by omega)) (hc.1 _ (sab_r (by omega)) (by omega))), (by obtain ⟨F, h1⟩ := hMa; exact ⟨F, (hc.1 _ (sab_t (by omega)) (by omega)).trans h1⟩), (by obtain ⟨F, h1⟩ := hMi; exact ⟨F, (hc.1 _ (sab_t (by omega)) (by omega)).trans h1⟩)⟩
/-- a Grid's method has changed its own alone -/
theorem chg_g {t0 mr mc lo hi sz sz' : Nat} {L P' L' : Nat → Nat} {mc' ms' : Nat} (hlo : lo ≤ t0) (hhi : t0 + 22 + (2 + 2 * mc) * mr ≤ hi) (hdk : ∀ a, DK b a → a < t0 ∨ hi ≤ a ∨ (t0 < a ∧ a < t0 + 16)) (h : WSE g (wsB b) (SAB b X) (EG (GL t0 mr mc)) V sz L V' sz' Z' P' L' mc' ms') (hN : NF (GL t0 mr mc) Z Z') : Chg b X lo hi V Z V' Z' := by
  have key : ∀ a, ¬ (lo ≤ a ∧ a < hi) ∨ DK b a → a < t0 ∨ hi ≤ a ∨ (t0 < a ∧ a < t0 + 16) := fun a h => by
    rcases h with h | h
    · omega
    · exact hdk a h
  refine ⟨fun a ha hn => h.2.2.1 a ha (fun q => ?_), fun x hn => hN x (fun q => ?_) (fun q => ?_) (fun ro hr j hj q => ?_)⟩
  · have h1 : a = t0 ∨ a = t0 + 21 ∨ a = t0 + 20 := q
    have h2 := key a hn
    generalize (2 + 2 * mc) * mr = m at *
    omega
  · have h1 : x = t0 + 16 := q
    have h2 := key x hn
    generalize (2 + 2 * mc) * mr = m at *
    omega
  · have h1 : x = t0 + 18 := q
    have h2 := key x hn
    generalize (2 + 2 * mc) * mr = m at *
    omega
  · have h1 := gl_cell hr hj
    rw [← q] at h1
    have h2 := key x hn
    clear hdk key
    generalize (2 + 2 * mc) * mr = m at *
    omega
end CXS

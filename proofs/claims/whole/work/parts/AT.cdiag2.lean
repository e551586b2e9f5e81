/-! ===== the class: the whole of diagonalOf ===== -/
theorem inc_id {h : Nat} {p : Nat → Nat} (h1 : ∀ a, a + 1 < h → p a < p (a + 1)) (h2 : ∀ a, a < h → p a < h) : ∀ a, a < h → p a = a := by
  have hx : ∀ x i, i + x + 1 = h → p i ≤ i := fun x => by
    induction x with
    | zero => intro i hi; have := h2 i (by omega); omega
    | succ x ih =>
      intro i hi
      have h3 := ih (i + 1) (by omega)
      have h4 := h1 i (by omega)
      omega
  intro a ha
  have h3 := hx (h - 1 - a) a (by omega)
  have h4 := inc_ge h1 a ha
  omega
theorem up_div {B : Mat} {h : Nat} (hB : ∀ i j, i < h → j < i → B i j = 0) : DVT h B h h (Pd (fun i => B i i) h) := DVT.inc (fun p c hp hpi hc hci => by
  rw [det_congr (B := B) (fun a b ha hb => by rw [inc_id hpi hp a ha, inc_id hci hc b hb]), ← det_T h, det_low (A := fun a b => B b a) (fun i j hij hj => hB j i hj hij)]
  exact ⟨1, by rw [Int.mul_one]⟩)
/-- a number that no common divisor of the greatest minors passes -/
def MnB (A : Mat) (h w : Nat) : Prop := ∃ m0 : Int, m0 ≠ 0 ∧ ab m0 ≤ CBd ∧ ∀ d : Int, DVT h A h w d → d ∣ m0
theorem MnB.le {A : Mat} {h w : Nat} (hb : MnB A h w) {d : Int} (hd : 0 ≤ d) (h1 : DVT h A h w d) : d ≤ CBd := by
  obtain ⟨m0, h2, h3, h4⟩ := hb
  obtain ⟨x, hx⟩ := h4 d h1
  have h5 : x ≠ 0 := fun z => h2 (by rw [hx, z, Int.mul_zero])
  rw [hx, ab_mul, ab_pos hd] at h3
  have h6 : 1 ≤ ab x := by unfold ab; omega
  have := Int.mul_le_mul_of_nonneg_left h6 hd
  omega
theorem dg_wide {A : Mat} {h w k : Nat} {dd : Nat → Int} {d : Int} (hw : h ≤ w) (hA : ∀ i j, i < h → j < w → A i j = Dg dd i j) : DVT k A h w d ↔ DVT k (Dg dd) h h d := by
  have e1 : DVT k A h w d ↔ DVT k (Dg dd) h w d := ⟨fun z => z.cong hA, fun z => z.cong (fun i j hi hj => (hA i j hi hj).symm)⟩
  refine e1.trans ⟨fun z p c hp hc => z p c hp (fun b hb => by have := hc b hb; omega), fun z => DVT.T.mpr ((DVT.T.mp z).span (fun i hi => ?_))⟩
  by_cases q : i < h
  · exact Span.row (A := fun i j => Dg dd j i) q
  · exact Span.zero.congr (fun j hj => (dg_o dd (show j ≠ i by omega)).symm)
/-- what doesn't change while a Grid is brought to a diagonal -/
def DGp (ws : List Nat) (SA E : Nat → Prop) (F T : GG) : Prop := GSt ws SA (DG F.gd) F ∧ GSt ws SA (DG T.gd) T ∧ DJ F T ∧ DJ T F ∧ (F.mr = 6 ∧ F.mc = 5 ∧ T.mr = 6 ∧ T.mc = 5) ∧ (∀ a, EG F a → E a) ∧ (∀ a, EG T a → E a) ∧ DJD F T ∧ DJD T F
theorem DGp.sw {ws : List Nat} {SA E : Nat → Prop} {F T : GG} (h : DGp ws SA E F T) : DGp ws SA E T F := ⟨h.2.1, h.1, h.2.2.2.1, h.2.2.1, ⟨h.2.2.2.2.1.2.2.1, h.2.2.2.2.1.2.2.2, h.2.2.2.2.1.1, h.2.2.2.2.1.2.1⟩, h.2.2.2.2.2.2.1, h.2.2.2.2.2.1, h.2.2.2.2.2.2.2.2, h.2.2.2.2.2.2.2.1⟩
def DGs (g : GX) (ws : List Nat) (SA : Nat → Prop) (F T : GG) (A0 : Mat) (w0 : Nat) (Z0 : Nat → Int) (V : AH) (Z : Nat → Int) (h w : Nat) (l ρ : Nat → Nat) : Prop := (DKV ws SA V Z (DG F.gd) ∧ DKV ws SA V Z (DG T.gd)) ∧ (∃ ld : Nat → Int, GD g V (DG F.gd).dk F h w ld ρ ∧ ∀ i, i < h → ld i = (l i : Int)) ∧ Stair (AM F Z ρ) h w l ∧ (∀ i j, i < h → j < w → ab (AM F Z ρ i j) ≤ CBd) ∧ (∀ (k : Nat) (d : Int), DVT k A0 h w0 d ↔ DVT k (AM F Z ρ) h w d) ∧ GDx g V (DG T.gd).dk T ∧ NF2 F T Z0 Z
/-- a diagonal stands in one of the two Grids -/
def DGe (g : GX) (ws : List Nat) (SA : Nat → Prop) (G1 G2 : GG) (A0 : Mat) (h w0 : Nat) (Z0 : Nat → Int) (r : Option Value) (V : AH) (Z : Nat → Int) : Prop := ∃ F T : GG, ((F = G1 ∧ T = G2) ∨ (F = G2 ∧ T = G1)) ∧ some (.ref F.gd) = r ∧ (DKV ws SA V Z (DG F.gd) ∧ DKV ws SA V Z (DG T.gd)) ∧ GDx g V (DG T.gd).dk T ∧ NF2 G1 G2 Z0 Z ∧ ∃ (w : Nat) (ld : Nat → Int) (ρ : Nat → Nat) (dd : Nat → Int), GD g V (DG F.gd).dk F h w ld ρ ∧ h ≤ w ∧ w ≤ 5 ∧ (∀ i, i < h → 0 < dd i) ∧ (∀ i j, i < h → j < w → AM F Z ρ i j = Dg dd i j) ∧ ∀ (k : Nat) (d : Int), DVT k A0 h w0 d ↔ DVT k (Dg dd) h h d
theorem sqm_lt {B : Mat} {h : Nat} {l : Nat → Nat} (s : Stair B h h l) (hh : h ≤ 5) (hD : Pd (fun i => B i i) h ≤ CBd) : sqm B h < 2 ^ 431 := by
  have hp : ∀ i, i < h → 1 ≤ B i i := fun i hi => by have := s.2.1 i hi; rw [sq_lead s.1 i hi] at this; omega
  have h1 := pd_bd (f := fun k => Pd (fun i => B i i) (k + 1)) (K := CBd) cbd_pos (n := h) (fun k hk => ⟨by have := Pd_pos (f := fun i => B i i) (n := k + 1) (fun i hi => hp i (by omega)); show 0 < Pd (fun i => B i i) (k + 1); omega, Int.le_trans (Pd_le hp (by omega)) hD⟩)
  have h2 := pw_mono cbd_pos hh
  have h3 : CBd ^ 5 < 2 ^ 431 := by unfold CBd; decide +kernel
  unfold sqm
  omega
theorem sq_bd {B : Mat} {h : Nat} {l : Nat → Nat} (s : Stair B h h l) (hD : Pd (fun i => B i i) h ≤ CBd) : ∀ i j, i < h → j < h → ab (B i j) ≤ CBd := fun i j hi hj => by
  have hp : ∀ i, i < h → 1 ≤ B i i := fun i hi => by have := s.2.1 i hi; rw [sq_lead s.1 i hi] at this; omega
  have h1 : B j j ≤ Pd (fun i => B i i) h := (Pd_ge (f := fun i => B i i) (n := h) hp).2 j hj
  have h2 := hp j hj
  have hc := cbd_pos
  rcases Nat.lt_trichotomy i j with q | q | q
  · have := s.2.2 i j q hj
    rw [sq_lead s.1 j hj] at this
    rw [ab_pos this.1]; omega
  · rw [q, ab_pos (by omega)]; omega
  · rw [sq_up s.1 hi q]; unfold ab; omega
set_option maxRecDepth 20000 in
theorem dgf_one (g : GX) (d : Nat) {ws : List Nat} {SA E : Nat → Prop} {F T : GG} {A0 : Mat} {w0 rd h w : Nat} {Z0 : Nat → Int} {R : Option Value → AH → (Nat → Int) → Prop} {V : AH} {sz : Nat} {Z : Nat → Int} {P L : Nat → Nat} {l ρ : Nat → Nat} (hp : DGp ws SA E F T) (hh : h ≤ 5) (hw5 : w ≤ 5) (hrd : rd < 1000000) (hmn : MnB A0 h w0) (hw0 : WG g ws SA V sz Z P L) (hs : DGs g ws SA F T A0 w0 Z0 V Z h w l ρ)
    (hR : ∀ {P L : Nat → Nat}, WG g ws SA V sz Z P L → (∀ i j, i < h → j < w → (Z (F.ga (ρ i) j) ≠ 0 ↔ i = j)) → WE g ws SA E V sz L R (some (.ref F.gd)) V sz 0 0)
    (hK : ¬ (∀ i j, i < h → j < w → (Z (F.ga (ρ i) j) ≠ 0 ↔ i = j)) → ∀ {V1 : AH} {sz1 : Nat} {Z1 : Nat → Int} {P1 L1 : Nat → Nat} {l1 ρ1 : Nat → Nat}, WG g ws SA V1 sz1 Z1 P1 L1 → DGs g ws SA T F A0 w0 Z0 V1 Z1 h h l1 ρ1 → Pd (fun i => AM T Z1 ρ1 i i) h ≤ CBd → SpEq (fun i c => AM F Z ρ c i) w (AM T Z1 ρ1) h h → AW g mX5_diagonalOf (d + 7) 7 [(2, .ref T.gd), (3, .ref F.gd), (4, .int (iZ (rd + 1 : Nat)))] [] V1 sz1 (WE g ws SA E V1 sz1 L1 R)) : AW g mX5_diagonalOf (d + 7) 7 [(2, .ref F.gd), (3, .ref T.gd), (4, .int (iZ rd))] [] V sz (WE g ws SA E V sz L R) := by
  obtain ⟨hSF, hST, hdj, hdj2, hm, hEF, hET, hjd, hjd2⟩ := id hp
  obtain ⟨hD, ⟨ld, hF, hld⟩, hst, hbd, hdv, ⟨ht, wt, ldt, ρt, hT⟩, hN2⟩ := id hs
  obtain ⟨m1, m2, m3, m4⟩ := id hm
  have hle := hst.1.le_w
  have fgd := hF.1
  have tgd := hT.1
  by_cases hq : ∀ i j, i < h → j < w → (Z (F.ga (ρ i) j) ≠ 0 ↔ i = j)
  · skip
    refine aw_iload dX5_diagonalOf_7 (by rfl) ?_
    refine aw_ldcwZ (z := 1000000) qX5_256 dX5_diagonalOf_9 (by decide) ?_
    refine aw_icmp_geZ (tgt := 119) dX5_diagonalOf_12 (by decide) (by omega) (by omega) (fun hc_12 => ?_) (fun hc_12 => ?_)
    · exact absurd hc_12 (by omega)
    · refine aw_aload_n dX5_diagonalOf_15 (by rfl) (Or.inr ⟨_, rfl⟩) ?_
      refine aw_callv vX5_244 dX5_diagonalOf_16 fgd (t_isDiagonal g (d + 6) (b := 1) hw0 hSF hF (by omega) (by omega) (Or.inl ⟨rfl, hq⟩)) (by rfl) (by rfl) (by omega) (Nat.le_of_ble_eq_true rfl) ?_
      rintro _ _ _ _ _ ⟨rfl, rfl, rfl, rfl, rfl⟩ -
      refine q0 ?_
      refine aw_if_neZ (tgt := 119) dX5_diagonalOf_19 (by decide) (by decide) (fun hc_19 => ?_) (fun hc_19 => ?_)
      · refine aw_aload_n dX5_diagonalOf_119 (by rfl) (Or.inr ⟨_, rfl⟩) ?_
        refine aw_aret dX5_diagonalOf_120 rfl (Or.inl ⟨_, rfl⟩) (Or.inr ⟨_, rfl⟩) ?_
        exact hR hw0 hq
      · exact absurd hc_19 (by decide)
  · have hK := fun {V1 sz1 Z1 P1 L1 l1 ρ1} => @hK hq V1 sz1 Z1 P1 L1 l1 ρ1
    refine aw_iload dX5_diagonalOf_7 (by rfl) ?_
    refine aw_ldcwZ (z := 1000000) qX5_256 dX5_diagonalOf_9 (by decide) ?_
    refine aw_icmp_geZ (tgt := 119) dX5_diagonalOf_12 (by decide) (by omega) (by omega) (fun hc_12 => ?_) (fun hc_12 => ?_)
    · exact absurd hc_12 (by omega)
    · refine aw_aload_n dX5_diagonalOf_15 (by rfl) (Or.inr ⟨_, rfl⟩) ?_
      refine aw_callv vX5_244 dX5_diagonalOf_16 fgd (t_isDiagonal g (d + 6) (b := 0) hw0 hSF hF (by omega) (by omega) (Or.inr ⟨rfl, hq⟩)) (by rfl) (by rfl) (by omega) (Nat.le_of_ble_eq_true rfl) ?_
      rintro _ _ _ _ _ ⟨rfl, rfl, rfl, rfl, rfl⟩ -
      refine q0 ?_
      refine aw_if_neZ (tgt := 119) dX5_diagonalOf_19 (by decide) (by decide) (fun hc_19 => ?_) (fun hc_19 => ?_)
      · exact absurd rfl hc_19
      · refine aw_aload_n dX5_diagonalOf_22 (by rfl) (Or.inr ⟨_, rfl⟩) ?_
        refine aw_aload_n dX5_diagonalOf_23 (by rfl) (Or.inr ⟨_, rfl⟩) ?_
        refine aw_get fX5_111 dX5_diagonalOf_24 fgd (by rfl) ?_
        refine aw_callv vX5_203 dX5_diagonalOf_27 tgd (t_gbegin g (d + 6) (w' := h) hT) (by rfl) (by rfl) (by omega) (Nat.le_of_ble_eq_true rfl) ?_
        rintro _ _ _ _ _ ⟨rfl, rfl, rfl, rfl, rfl⟩ -
        refine q0 ?_
        refine WE.stp0 (WSE.sto hw0 hST.1.1 (hET _ (Or.inl rfl))) ?_
        have hw1 := hw0.sto (e := grO T.ra T.la (DG T.gd).dk T.fa T.pr (0 : Nat) h) hST.1.1
        refine aw_iconstZ dX5_diagonalOf_30 ?_
        refine aw_istore dX5_diagonalOf_31 (by decide) ?_
        refine aw_pk [5, 2, 3, 4] (by rfl) ?_
        refine dgf_j g d hSF hST hdj hm hET (V0 := AHu V T.gd (grO T.ra T.la (DG T.gd).dk T.fa T.pr (0 : Nat) h)) (Z0 := Z) (hF.dj hSF hdj (fun a _ hE => AHu_ne (fun q => hE (Or.inl q)))) hh hw5 hbd (fun {V1 sz1 Z1 P1 L1 h1 ld1 l1 ρ1} hw2 hD2 hV2 hT2 hld2 hst2 hsp2 hNF2 => ?_) w 0 (by omega) hw1 (hD.2.kept (AHu_ne hST.2.1.2.2.2.1) rfl rfl rfl) (fun _ _ _ => rfl) (hT.begin hST 0 h) (lt := fun _ => 0) (fun i hi => absurd hi (by omega)) Stair.nil SpEq.nil NF.rf
        obtain rfl : h = h1 := (ech_hT hst.1 hst2.1 hsp2).symm
        have hdv1 : ∀ (k : Nat) (d : Int), DVT k A0 h w0 d ↔ DVT k (AM T Z1 ρ1) h h d := fun k d => (hdv k d).trans (DVT.T.trans (DVT.eq hsp2))
        have hPd : Pd (fun i => AM T Z1 ρ1 i i) h ≤ CBd := hmn.le (by have := Pd_pos (f := fun i => AM T Z1 ρ1 i i) (n := h) (fun i hi => by have := hst2.2.1 i hi; rw [sq_lead hst2.1 i hi] at this; show 1 ≤ AM T Z1 ρ1 i i; omega); omega) ((hdv1 _ _).mpr (up_div (fun i j hi hj => sq_up hst2.1 hi hj)))
        exact hK hw2 ⟨⟨hD2, hD.1.nf hjd (fun a ha hE => (hV2 a ha hE).trans (AHu_ne (fun q => hE (Or.inl q)))) hNF2⟩, ⟨ld1, hT2, hld2⟩, hst2, sq_bd hst2 hPd, hdv1, ⟨h, w, ld, ρ, hF.dj hSF hdj (fun a ha hE => (hV2 a ha hE).trans (AHu_ne (fun q => hE (Or.inl q))))⟩, (hN2.r hNF2).sw⟩ hPd hsp2
/-- a Grid that has been found diagonal -/
theorem dgf_end {g : GX} {ws : List Nat} {SA E : Nat → Prop} {F T G1 G2 : GG} {A0 : Mat} {w0 h w : Nat} {Z0 : Nat → Int} {V : AH} {sz : Nat} {Z : Nat → Int} {P L : Nat → Nat} {l ρ : Nat → Nat} (hFT : (F = G1 ∧ T = G2) ∨ (F = G2 ∧ T = G1)) (hw5 : w ≤ 5) (hw0 : WG g ws SA V sz Z P L) (hs : DGs g ws SA F T A0 w0 Z0 V Z h w l ρ) (hq : ∀ i j, i < h → j < w → (Z (F.ga (ρ i) j) ≠ 0 ↔ i = j)) : WE g ws SA E V sz L (DGe g ws SA G1 G2 A0 h w0 Z0) (some (.ref F.gd)) V sz 0 0 := by
  obtain ⟨hD, ⟨ld, hF, hld⟩, hst, hbd, hdv, hT, hN2⟩ := id hs
  have hle := hst.1.le_w
  have hl : ∀ i, i < h → l i = i := fun i hi => ((hq i (l i) hi (hst.1.1 i hi).1).mp (hst.1.1 i hi).2.1).symm
  have hd : ∀ i j, i < h → j < w → AM F Z ρ i j = Dg (fun i => AM F Z ρ i i) i j := fun i j hi hj => by
    by_cases e : i = j
    · rw [e, dg_d]
    · rw [dg_o _ e]
      exact Classical.byContradiction (fun z => e ((hq i j hi hj).mp z))
  refine WE.ret hw0 ⟨F, T, hFT, rfl, hD, hT, ?_, w, ld, ρ, fun i => AM F Z ρ i i, hF, hle, hw5, fun i hi => ?_, hd, fun k d => (hdv k d).trans (dg_wide hle hd)⟩
  · rcases hFT with ⟨rfl, rfl⟩ | ⟨rfl, rfl⟩
    · exact hN2
    · exact hN2.sw
  · have := hst.2.1 i hi
    rw [hl i hi] at this
    exact this
theorem dgf_7 (g : GX) (d : Nat) {ws : List Nat} {SA E : Nat → Prop} {G1 G2 : GG} {A0 : Mat} {w0 h : Nat} {Z0 : Nat → Int} (hh : h ≤ 5) (hmn : MnB A0 h w0) : ∀ (f rd : Nat), rd + f < 1000000 → ∀ {F T : GG} {V : AH} {sz : Nat} {Z : Nat → Int} {P L : Nat → Nat} {l ρ : Nat → Nat}, ((F = G1 ∧ T = G2) ∨ (F = G2 ∧ T = G1)) → DGp ws SA E F T → WG g ws SA V sz Z P L → DGs g ws SA F T A0 w0 Z0 V Z h h l ρ → ((∀ i j, i < h → j < h → i ≠ j → AM F Z ρ i j = 0) ∨ sqm (AM F Z ρ) h < 2 ^ f) → AW g mX5_diagonalOf (d + 7) 7 [(2, .ref F.gd), (3, .ref T.gd), (4, .int (iZ rd))] [] V sz (WE g ws SA E V sz L (DGe g ws SA G1 G2 A0 h w0 Z0)) := by
  intro f
  induction f with
  | zero =>
    intro rd hrd F T V sz Z P L l ρ hFT hp hw0 hs hq
    have hst := hs.2.2.1
    have hpos : ∀ i, i < h → 1 ≤ AM F Z ρ i i := fun i hi => by have := hst.2.1 i hi; rw [sq_lead hst.1 i hi] at this; omega
    refine dgf_one g d hp hh hh (by omega) hmn hw0 hs (fun {P L} hw1 hq1 => dgf_end hFT hh hw1 hs hq1) (fun hnq {V1 sz1 Z1 P1 L1 l1 ρ1} hw1 hs1 hPd hsp => ?_)
    rcases hq with hq | hq
    · refine absurd (fun i j hi hj => ⟨fun z => Classical.byContradiction (fun e => z (hq i j hi hj e)), fun e => ?_⟩) hnq
      subst e
      have := hpos i hi
      show AM F Z ρ i i ≠ 0
      omega
    · have h1 : 1 ≤ sqm (AM F Z ρ) h := Pd_pos (fun k hk => Pd_pos (fun i hi => hpos i (by omega)))
      rw [Int.pow_zero] at hq
      exact absurd hq (by omega)
  | succ f ih =>
    intro rd hrd F T V sz Z P L l ρ hFT hp hw0 hs hq
    have hst := hs.2.2.1
    have hpos : ∀ i, i < h → 1 ≤ AM F Z ρ i i := fun i hi => by have := hst.2.1 i hi; rw [sq_lead hst.1 i hi] at this; omega
    refine dgf_one g d hp hh hh (by omega) hmn hw0 hs (fun {P L} hw1 hq1 => dgf_end hFT hh hw1 hs hq1) (fun hnq {V1 sz1 Z1 P1 L1 l1 ρ1} hw1 hs1 hPd hsp => ?_)
    rcases hq with hq | hq
    · refine absurd (fun i j hi hj => ⟨fun z => Classical.byContradiction (fun e => z (hq i j hi hj e)), fun e => ?_⟩) hnq
      subst e
      have := hpos i hi
      show AM F Z ρ i i ≠ 0
      omega
    · rw [Int.pow_succ] at hq
      refine ih (rd + 1) (by omega) (by rcases hFT with z | z; exact Or.inr ⟨z.2, z.1⟩; exact Or.inl ⟨z.2, z.1⟩) hp.sw hw1 hs1 ?_
      rcases sq_step hst hs1.2.2.1 hsp with z | z
      · exact Or.inl z
      · exact Or.inr (by omega)
set_option maxRecDepth 20000 in
theorem t_diagonalOf (g : GX) (d : Nat) {ws : List Nat} {SA E : Nat → Prop} {G1 G2 : GG} {A0 : Mat} {h w : Nat} {V : AH} {sz : Nat} {Z : Nat → Int} {P L : Nat → Nat} {l ρ : Nat → Nat} (hp : DGp ws SA E G1 G2) (hh : h ≤ 5) (hw5 : w ≤ 5) (hmn : MnB A0 h w) (hw0 : WG g ws SA V sz Z P L) (hs : DGs g ws SA G1 G2 A0 w Z V Z h w l ρ) : AMet g mX5_diagonalOf (d + 7) [.ref G1.gd, .ref G2.gd] V sz (WE g ws SA E V sz L (DGe g ws SA G1 G2 A0 h w Z)) := by
  refine AMet.of rfl rfl (Nat.le_of_ble_eq_true rfl) ?_
  show AW g mX5_diagonalOf (d + 7) 0 [(0, .ref G1.gd), (1, .ref G2.gd)] [] V sz _
  refine aw_aload_n dX5_diagonalOf_0 (by rfl) (Or.inr ⟨_, rfl⟩) ?_
  refine aw_astore_n dX5_diagonalOf_1 (by decide) (Or.inr ⟨_, rfl⟩) ?_
  refine aw_aload_n dX5_diagonalOf_2 (by rfl) (Or.inr ⟨_, rfl⟩) ?_
  refine aw_astore_n dX5_diagonalOf_3 (by decide) (Or.inr ⟨_, rfl⟩) ?_
  refine aw_iconstZ dX5_diagonalOf_4 ?_
  refine aw_istore dX5_diagonalOf_5 (by decide) ?_
  refine aw_pk [2, 3, 4] (by rfl) ?_
  exact dgf_one g d hp hh hw5 (rd := 0) (by omega) hmn hw0 hs (fun {P L} hw1 hq1 => dgf_end (Or.inl ⟨rfl, rfl⟩) hw5 hw1 hs hq1) (fun _ {V1 sz1 Z1 P1 L1 l1 ρ1} hw1 hs1 hPd hsp => dgf_7 g d hh hmn 431 1 (by omega) (Or.inr ⟨rfl, rfl⟩) hp.sw hw1 hs1 (Or.inr (sqm_lt hs1.2.2.1 hh hPd)))

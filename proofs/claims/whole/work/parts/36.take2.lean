/-! ===== Grid.takeIn, whole ===== -/
theorem ins_lt {α : Type} {f : Nat → α} {p h : Nat} {x : α} {i : Nat} (hi : i < p) : insF f p h x i = f i := by unfold insF; rw [if_neg (by omega), if_neg (by omega)]
theorem ins_eq {α : Type} {f : Nat → α} {p h : Nat} {x : α} : insF f p h x p = x := by unfold insF; rw [if_pos rfl]
theorem ins_gt {α : Type} {f : Nat → α} {p h : Nat} {x : α} {i : Nat} (hi : p < i) (hh : i ≤ h) : insF f p h x i = f (i - 1) := by unfold insF; rw [if_neg (by omega), if_pos ⟨hi, hh⟩]
theorem ins_ge {α : Type} {f : Nat → α} {p h : Nat} {x : α} {i : Nat} (hi : p < i) (hh : h < i) : insF f p h x i = f i := by unfold insF; rw [if_neg (by omega), if_neg (by omega)]
/-- a place of the new order is a place of the old one -/
theorem ins_at {α : Type} {f : Nat → α} {p h n : Nat} (hp : p ≤ h) (hh : h < n) {i : Nat} (hi : i < n) : ∃ k, k < n ∧ insF f p h (f h) i = f k ∧ (k = if i = p then h else if p < i ∧ i ≤ h then i - 1 else i) := by
  unfold insF
  by_cases h1 : i = p
  · exact ⟨h, hh, by rw [if_pos h1], by rw [if_pos h1]⟩
  · by_cases h2 : p < i ∧ i ≤ h
    · exact ⟨i - 1, by omega, by rw [if_neg h1, if_pos h2], by rw [if_neg h1, if_pos h2]⟩
    · exact ⟨i, hi, by rw [if_neg h1, if_neg h2], by rw [if_neg h1, if_neg h2]⟩
theorem P1.ins {A0 A A' : Mat} {h w : Nat} {l : Nat → Nat} {lf p : Nat} {b c : Int} (hb : 1 ≤ b) (hc : 1 ≤ c) (k : P1 A0 A h w l lf p b c) (hl : ∀ i m, i < m → m < h → l i < l m) (hph : p ≤ h) (hex : p = h ∨ lf < l p) (hlf : lf < w) (h1 : ∀ i, i < p → ∀ j, A' i j = A i j) (h2 : ∀ j, A' p j = A h j) (h3 : ∀ i, p < i → i ≤ h → ∀ j, A' i j = A (i - 1) j) :
    Ech A' (h + 1) w (insF l p h lf) ∧ SpEq A (h + 1) A' (h + 1) w ∧ ∀ i j, i < h + 1 → j < w → ab (A' i j) ≤ Cs b c h := by
  obtain ⟨a1, a2, a3, a4, a5, a6⟩ := k
  have hmo := Cs.mono hb hc hph
  have hb2 : ∀ i, i < h → ∀ j, j < w → ab (A i j) ≤ Cs b c h := fun i hi j hj => by
    have h4 := a5 i hi j hj
    by_cases hq : i < p
    · rw [if_pos hq] at h4; omega
    · rw [if_neg hq] at h4
      have h5 := (Cs.up hb hc (h - 1)).2.2
      rw [show h - 1 + 1 = h by omega] at h5
      omega
  refine ⟨⟨fun i hi => ?_, fun i m him hm => ?_⟩, ?_, fun i j hi hj => ?_⟩
  · rcases Nat.lt_trichotomy i p with hq | hq | hq
    · obtain ⟨b1, b2, b3⟩ := a1 i (by omega)
      rw [ins_lt hq]
      exact ⟨b1, by rw [h1 i hq]; omega, fun j hj => by rw [h1 i hq]; exact b3 j hj⟩
    · subst hq
      rw [ins_eq]
      exact ⟨hlf, by rw [h2]; exact a3.2.2 hlf, fun j hj => by rw [h2]; exact a3.2.1 j hj⟩
    · obtain ⟨b1, b2, b3⟩ := a1 (i - 1) (by omega)
      rw [ins_gt hq (by omega)]
      exact ⟨b1, by rw [h3 i hq (by omega)]; omega, fun j hj => by rw [h3 i hq (by omega)]; exact b3 j hj⟩
  · rcases Nat.lt_trichotomy m p with hq | hq | hq
    · rw [ins_lt hq, ins_lt (by omega)]; exact hl i m him (by omega)
    · subst hq; rw [ins_eq, ins_lt him]; exact a4 i him
    · rw [ins_gt hq (by omega)]
      rcases Nat.lt_trichotomy i p with hr | hr | hr
      · rw [ins_lt hr]; exact hl i (m - 1) (by omega) (by omega)
      · subst hr
        rw [ins_eq]
        by_cases hs : m - 1 = i
        · rw [hs]; omega
        · have := hl i (m - 1) (by omega) (by omega); omega
      · rw [ins_gt hr (by omega)]; exact hl (i - 1) (m - 1) (by omega) (by omega)
  · refine SpEq.perm (fun i hi => ?_) (fun i hi => ?_)
    · by_cases hq : i = h
      · subst hq; exact ⟨p, by omega, fun j _ => (h2 j).symm⟩
      · by_cases hr : i < p
        · exact ⟨i, hi, fun j _ => (h1 i hr j).symm⟩
        · exact ⟨i + 1, by omega, fun j _ => by rw [h3 (i + 1) (by omega) (by omega)]; rfl⟩
    · rcases Nat.lt_trichotomy i p with hq | hq | hq
      · exact ⟨i, hi, fun j _ => h1 i hq j⟩
      · subst hq; exact ⟨h, by omega, fun j _ => h2 j⟩
      · exact ⟨i - 1, by omega, fun j _ => h3 i hq (by omega) j⟩
  · rcases Nat.lt_trichotomy i p with hq | hq | hq
    · rw [h1 i hq]; exact hb2 i (by omega) j hj
    · subst hq; rw [h2]; exact Int.le_trans (a6 j hj) hmo
    · rw [h3 i hq (by omega)]; exact hb2 (i - 1) (by omega) j hj
theorem P1.no {A0 A : Mat} {h w : Nat} {l : Nat → Nat} {lf p : Nat} {b c : Int} (hb : 1 ≤ b) (hc : 1 ≤ c) (k : P1 A0 A h w l lf p b c) (hl : ∀ i m, i < m → m < h → l i < l m) (hph : p ≤ h) (hlf : ¬ lf < w) : Ech A h w l ∧ SpEq A (h + 1) A h w ∧ ∀ i j, i < h → j < w → ab (A i j) ≤ Cs b c h := by
  obtain ⟨a1, a2, a3, a4, a5, a6⟩ := k
  have hmo := Cs.mono hb hc hph
  refine ⟨⟨fun i hi => ⟨(a1 i hi).1, by have := (a1 i hi).2.1; omega, (a1 i hi).2.2⟩, hl⟩, SpEq.drop (fun j hj => a3.2.1 j (by omega)), fun i j hi hj => ?_⟩
  have h4 := a5 i hi j hj
  by_cases hq : i < p
  · rw [if_pos hq] at h4; omega
  · rw [if_neg hq] at h4
    have h5 := (Cs.up hb hc (h - 1)).2.2
    rw [show h - 1 + 1 = h by omega] at h5
    omega
theorem ech_Y {A : Mat} {h w : Nat} {l : Nat → Nat} {Y : Int} (e : Ech A h w l) (hb : ∀ i j, i < h → j < w → ab (A i j) ≤ Y) (i m : Nat) (hi : i < h) (hm : m < h) : ab (A i (l m)) ≤ Y * ab (A m (l m)) := by
  have h1 := hb i (l m) hi (e.1 m hm).1
  have h2 : 1 ≤ ab (A m (l m)) := by
    have := (e.1 m hm).2.1
    unfold ab; omega
  have h3 : Y * 1 ≤ Y * ab (A m (l m)) := Int.mul_le_mul_of_nonneg_left h2 (Int.le_trans (ab0 _) h1)
  omega
theorem ti_182 (g : GX) (d : Nat) {ws : List Nat} {SA : Nat → Prop} {D : DT} {G : GG} {h w : Nat} {l : Nat → Nat} {Z0 : Nat → Int} {A0 : Mat} {K c : Int} (hS : GSt ws SA D G) (hhm : h < G.mr) (hwr : w < G.mr) (hwm : w ≤ G.mc) (hl : ∀ i m, i < m → m < h → l i < l m) (hL : LB A0 (h + 1) w K) (hK1 : 1 ≤ K) (hc1 : 1 ≤ c) (hT2 : Sm (2 * ((Cs K c h + 1) * 2 ^ (h + 1) * K))) {V : AH} {sz : Nat} {Z : Nat → Int} {P L : Nat → Nat} {ρ : Nat → Nat} (hw0 : WG g ws SA V sz Z P L) (hD : DKV ws SA V Z D) {h1 : Nat} {ld1 : Nat → Int} {l1 : Nat → Nat} {lv : List (Nat × Value)} (hlv : lv.lookup 0 = some (.ref G.gd)) (hG : GD g V D.dk G h1 w ld1 ρ) (hld1 : ∀ i, i < h1 → ld1 i = (l1 i : Int)) (hE : Ech (AM G Z ρ) h1 w l1) (hB : ∀ i j, i < h1 → j < w → ab (AM G Z ρ i j) ≤ Cs K c h) (hSp : SpEq A0 (h + 1) (AM G Z ρ) h1 w) (hNF : NF G Z0 Z) (hh1 : h1 ≤ h + 1) (hhr : h1 ≤ G.mr) : AW g mX1_takeIn (d + 6) 182 lv [] V sz (WE g ws SA (EG G) V sz L (fun r V' Z' => none = r ∧ ∃ (h' : Nat) (ld' : Nat → Int) (l' : Nat → Nat) (ρ' : Nat → Nat), GD g V' D.dk G h' w ld' ρ' ∧ (∀ i, i < h' → ld' i = (l' i : Int)) ∧ Stair (AM G Z' ρ') h' w l' ∧ SpEq A0 (h + 1) (AM G Z' ρ') h' w ∧ NF G Z0 Z' ∧ h' ≤ h + 1)) := by
  have hy := (yb_le (Y := Cs K c h) (K := K) (t := h1) (n := h + 1) (Int.le_trans (by omega) (Cs.up hK1 hc1 h).1) hK1 hh1).1
  have hy0 : 0 ≤ (Cs K c h + 1) * 2 ^ h1 * K := Int.mul_nonneg (Int.mul_nonneg (by have := (Cs.up hK1 hc1 h).1; omega) (Int.pow_nonneg (by omega))) (by omega)
  refine aw_aload_n dX1_takeIn_182 hlv (Or.inr ⟨_, rfl⟩) ?_
  refine aw_callv vX1_81 dX1_takeIn_183 hG.1 (w_tidy g d hS hhr hwm hld1 (hL.eq hSp) (Int.le_trans (by omega) (Cs.up hK1 hc1 h).1) hK1 (ech_Y hE hB) (Sm.of hT2 (by rw [ab_pos (by omega)]; omega)) hw0 hD hG hE) (by rfl) (by rfl) (by omega) (Nat.le_of_ble_eq_true rfl) ?_
  rintro _ V1 sz1 mc1 ms1 ⟨Z1, P1', L1, ⟨rfl, hG1, hSt, hSp1, hNF1⟩, hs1⟩ -
  refine WE.stp (hs1.weak (fun _ q => q.elim)) ?_
  refine aw_ret dX1_takeIn_186 rfl ?_
  exact WE.ret hs1.1 ⟨rfl, h1, ld1, l1, ρ, hG1, hld1, hSt, hSp.tr hSp1, hNF.tr hNF1, hh1⟩
set_option maxRecDepth 20000 in
theorem ti_158 (g : GX) (d : Nat) {ws : List Nat} {SA : Nat → Prop} {D : DT} {G : GG} {h w : Nat} {l : Nat → Nat} {Z0 : Nat → Int} {A0 : Mat} {K c : Int} (hS : GSt ws SA D G) (hhm : h < G.mr) (hwr : w < G.mr) (hwm : w ≤ G.mc) (hl : ∀ i m, i < m → m < h → l i < l m) (hL : LB A0 (h + 1) w K) (hK1 : 1 ≤ K) (hc1 : 1 ≤ c) (hT2 : Sm (2 * ((Cs K c h + 1) * 2 ^ (h + 1) * K))) {V : AH} {sz : Nat} {Z : Nat → Int} {P L : Nat → Nat} {ρ : Nat → Nat} (hw0 : WG g ws SA V sz Z P L) (hD : DKV ws SA V Z D) {ld : Nat → Int} {p lf : Nat} (hph : p ≤ h) (hld : ∀ i, i < h → ld i = (l i : Int)) (hgd : V G.gd = some (grO G.ra G.la D.dk G.fa G.pr h w)) (hra : V G.ra = some (aQ g 4 G.mr (fun k => some (shF ρ p h k)))) (hla : V G.la = some (aIz g G.mr (shF ld p h))) (hrow : ∀ ro, G.RS ro → RowV g V ro (G.ka ro) G.mc (G.ga ro)) (hRS : ∀ i, i < G.mr → G.RS (ρ i)) (hinj : ∀ i j, i < G.mr → j < G.mr → i ≠ j → ρ i ≠ ρ j) (hE : Ech (AM G Z (insF ρ p h (ρ h))) (h + 1) w (insF l p h lf)) (hB : ∀ i j, i < h + 1 → j < w → ab (AM G Z (insF ρ p h (ρ h)) i j) ≤ Cs K c h) (hSp : SpEq A0 (h + 1) (AM G Z (insF ρ p h (ρ h))) (h + 1) w) (hNF : NF G Z0 Z) : AW g mX1_takeIn (d + 6) 158 [(3, .ref (ρ h)), (1, .int (iZ p)), (2, .int (iZ lf)), (0, .ref G.gd)] [] V sz (WE g ws SA (EG G) V sz L (fun r V' Z' => none = r ∧ ∃ (h' : Nat) (ld' : Nat → Int) (l' : Nat → Nat) (ρ' : Nat → Nat), GD g V' D.dk G h' w ld' ρ' ∧ (∀ i, i < h' → ld' i = (l' i : Int)) ∧ Stair (AM G Z' ρ') h' w l' ∧ SpEq A0 (h + 1) (AM G Z' ρ') h' w ∧ NF G Z0 Z' ∧ h' ≤ h + 1)) := by
  obtain ⟨-, -, -, -, -, -, hmr, hmc⟩ := id hS
  have hrh := (hrow _ (hRS h hhm)).1
  refine aw_aload_n dX1_takeIn_158 (by rfl) (Or.inr ⟨_, rfl⟩) ?_
  refine aw_get fX1_41 dX1_takeIn_159 (by assumption) (by rfl) ?_
  refine aw_iload_n dX1_takeIn_162 (by rfl) ?_
  refine aw_aload_n dX1_takeIn_163 (by rfl) (Or.inr ⟨_, rfl⟩) ?_
  refine aw_aastR (p) dX1_takeIn_164 (by assumption) (by assumption) (by omega) (by omega) (by omega) ?_
  rw [shF_ins]
  have hgd1 : (AHu V G.ra (aQ g 4 G.mr (fun k => some (insF ρ p h (ρ h) k)))) G.gd = _ := (AHu_ne hS.2.1.1).trans hgd
  have hla1 : (AHu V G.ra (aQ g 4 G.mr (fun k => some (insF ρ p h (ρ h) k)))) G.la = _ := (AHu_ne hS.2.1.2.2.1.symm).trans hla
  refine WE.stp0 (WSE.sto hw0 hS.1.2.1 (Or.inr (Or.inl rfl))) ?_
  have hw1 := hw0.sto (e := aQ g 4 G.mr (fun k => some (insF ρ p h (ρ h) k))) hS.1.2.1
  refine aw_aload_n dX1_takeIn_165 (by rfl) (Or.inr ⟨_, rfl⟩) ?_
  refine aw_get fX1_35 dX1_takeIn_166 (by assumption) (by rfl) ?_
  refine aw_iload_n dX1_takeIn_169 (by rfl) ?_
  refine aw_iload_n dX1_takeIn_170 (by rfl) ?_
  refine aw_iastZ (p) dX1_takeIn_171 (by assumption) (by omega) (by omega) (by omega) ?_
  rw [shF_ins]
  refine WE.stp0 (WSE.sto hw1 hS.1.2.2 (Or.inr (Or.inr rfl))) ?_
  have hw2 := hw1.sto (e := aIz g G.mr (insF ld p h lf)) hS.1.2.2
  have hgd2 : (AHu (AHu V G.ra (aQ g 4 G.mr (fun k => some (insF ρ p h (ρ h) k)))) G.la (aIz g G.mr (insF ld p h lf))) G.gd = _ := (AHu_ne hS.2.1.2.1).trans hgd1
  refine aw_aload_n dX1_takeIn_172 (by rfl) (Or.inr ⟨_, rfl⟩) ?_
  refine aw_dup dX1_takeIn_173 rfl ?_
  refine aw_get fX1_28 dX1_takeIn_174 (by assumption) (by rfl) ?_
  refine aw_iconstZ dX1_takeIn_177 ?_
  refine aw_iaddZ dX1_takeIn_178 ?_
  refine aw_put fX1_28 dX1_takeIn_179 (by assumption) (by rfl) (by rfl) (Nat.le_of_ble_eq_true rfl) ?_
  show AW g mX1_takeIn (d + 6) _ _ _ (AHu (AHu (AHu V G.ra (aQ g 4 G.mr (fun k => some (insF ρ p h (ρ h) k)))) G.la (aIz g G.mr (insF ld p h lf))) G.gd (grO G.ra G.la D.dk G.fa G.pr ((h : Int) + 1) w)) _ _
  rw [show (h : Int) + 1 = ((h + 1 : Nat) : Int) by omega]
  refine WE.stp0 (WSE.sto hw2 hS.1.1 (Or.inl rfl)) ?_
  have hw3 := hw2.sto (e := grO G.ra G.la D.dk G.fa G.pr ((h + 1 : Nat) : Int) w) hS.1.1
  refine ti_182 g d hS hhm hwr hwm hl hL hK1 hc1 hT2 hw3 (hD.kept ((AHu_ne hS.2.1.2.2.2.1).trans ((AHu_ne hS.2.1.2.2.2.2.2).trans (AHu_ne hS.2.1.2.2.2.2.1))) rfl rfl rfl) (h1 := h + 1) (ld1 := insF ld p h lf) (l1 := insF l p h lf) (ρ := insF ρ p h (ρ h)) (by rfl) ⟨AHu_self _ _ _, by rw [AHu_ne hS.2.1.1.symm, AHu_ne hS.2.1.2.2.1, AHu_self], by rw [AHu_ne hS.2.1.2.1.symm, AHu_self], fun ro hr => ?_, fun i hi => ?_, fun i j hi hj hij => ?_⟩ (fun i hi => ?_) hE hB hSp hNF (by omega) (by omega)
  · obtain ⟨-, -, ⟨b1, b2, b3⟩, b4, b5, b6⟩ := hS.2.2.2.1 ro hr
    exact (hrow ro hr).kept (by rw [AHu_ne b1, AHu_ne b3, AHu_ne b2]) (by rw [AHu_ne b4, AHu_ne b6, AHu_ne b5])
  · obtain ⟨k, hk, e, -⟩ := ins_at (f := ρ) hph hhm hi
    rw [e]; exact hRS k hk
  · obtain ⟨k, hk, e, ek⟩ := ins_at (f := ρ) hph hhm hi
    obtain ⟨k', hk', e', ek'⟩ := ins_at (f := ρ) hph hhm hj
    rw [e, e']
    refine hinj k k' hk hk' ?_
    rw [ek, ek']
    split <;> split <;> (try split) <;> (try split) <;> omega
  · rcases Nat.lt_trichotomy i p with hq | hq | hq
    · rw [ins_lt hq, ins_lt hq]; exact hld i (by omega)
    · subst hq; rw [ins_eq, ins_eq]
    · rw [ins_gt hq (by omega), ins_gt hq (by omega)]; exact hld (i - 1) (by omega)

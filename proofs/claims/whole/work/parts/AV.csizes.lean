/-! ===== the class: sizes ===== -/
theorem gs_rs {t0 mr mc ro : Nat} (h : (GL t0 mr mc).RS ro) : t0 + 22 ≤ ro ∧ ro + 1 < t0 + 22 + (2 + 2 * mc) * mr := by
  obtain ⟨r, hr, e⟩ := h
  have h1 : (2 + 2 * mc) * (r + 1) ≤ (2 + 2 * mc) * mr := Nat.mul_le_mul_left _ hr
  rw [Nat.mul_add] at h1
  omega
theorem dj_SH (b : Nat) : DJ (GSc b) (GTh b) := by
  refine ⟨fun ro hr j hj => ?_, ?_, ?_, ?_, fun ro hr => ?_⟩
  · have h1 := gl_cell (t0 := b + 423) (mr := 6) (mc := 5) hr hj
    have e : (GSc b).ga ro j = (GL (b + 423) 6 5).ga ro j := rfl
    refine ⟨by show _ ≠ b + 517 + 16; omega, by show _ ≠ b + 517 + 18; omega, fun ro' hr' j' hj' => ?_⟩
    have h2 := gl_cell (t0 := b + 517) (mr := 6) (mc := 5) hr' hj'
    have e2 : (GTh b).ga ro' j' = (GL (b + 517) 6 5).ga ro' j' := rfl
    omega
  · intro q; have := eg_H q; have e : (GSc b).gd = b + 423 := rfl; omega
  · intro q; have := eg_H q; have e : (GSc b).ra = b + 423 + 21 := rfl; omega
  · intro q; have := eg_H q; have e : (GSc b).la = b + 423 + 20 := rfl; omega
  · have h1 := gs_rs (t0 := b + 423) (mr := 6) (mc := 5) hr
    have e : (GSc b).ka ro = ro + 1 := rfl
    exact ⟨fun q => by have := eg_H q; omega, fun q => by have := eg_H q; omega⟩
theorem dj_HS (b : Nat) : DJ (GTh b) (GSc b) := by
  refine ⟨fun ro hr j hj => ?_, ?_, ?_, ?_, fun ro hr => ?_⟩
  · have h1 := gl_cell (t0 := b + 517) (mr := 6) (mc := 5) hr hj
    have e : (GTh b).ga ro j = (GL (b + 517) 6 5).ga ro j := rfl
    refine ⟨by show _ ≠ b + 423 + 16; omega, by show _ ≠ b + 423 + 18; omega, fun ro' hr' j' hj' => ?_⟩
    have h2 := gl_cell (t0 := b + 423) (mr := 6) (mc := 5) hr' hj'
    have e2 : (GSc b).ga ro' j' = (GL (b + 423) 6 5).ga ro' j' := rfl
    omega
  · intro q; have := eg_S q; have e : (GTh b).gd = b + 517 := rfl; omega
  · intro q; have := eg_S q; have e : (GTh b).ra = b + 517 + 21 := rfl; omega
  · intro q; have := eg_S q; have e : (GTh b).la = b + 517 + 20 := rfl; omega
  · have h1 := gs_rs (t0 := b + 517) (mr := 6) (mc := 5) hr
    have e : (GTh b).ka ro = ro + 1 := rfl
    exact ⟨fun q => by have := eg_S q; omega, fun q => by have := eg_S q; omega⟩
theorem djd_SH (b : Nat) : DJD (GSc b) (GTh b) := by
  refine ⟨fun q => ?_, fun x hx => ?_⟩
  · have := eg_H q
    have e : (DG (GSc b).gd).dk = b + 423 + 1 := rfl
    omega
  · have h1 : x < b + 439 := by
      rcases hx with q | q | q
      · have q : x = b + 423 + 2 := q
        omega
      · have q : x = b + 423 + 4 := q
        omega
      · have q : x = b + 423 + 6 := q
        omega
    refine ⟨by show x ≠ b + 517 + 16; omega, by show x ≠ b + 517 + 18; omega, fun ro hr j hj => ?_⟩
    have h2 := gl_cell (t0 := b + 517) (mr := 6) (mc := 5) hr hj
    have e2 : (GTh b).ga ro j = (GL (b + 517) 6 5).ga ro j := rfl
    omega
theorem djd_HS (b : Nat) : DJD (GTh b) (GSc b) := by
  refine ⟨fun q => ?_, fun x hx => ?_⟩
  · have := eg_S q
    have e : (DG (GTh b).gd).dk = b + 517 + 1 := rfl
    omega
  · have h1 : b + 517 ≤ x := by
      rcases hx with q | q | q
      · have q : x = b + 517 + 2 := q
        omega
      · have q : x = b + 517 + 4 := q
        omega
      · have q : x = b + 517 + 6 := q
        omega
    refine ⟨by show x ≠ b + 423 + 16; omega, by show x ≠ b + 423 + 18; omega, fun ro hr j hj => ?_⟩
    have h2 := gl_cell (t0 := b + 423) (mr := 6) (mc := 5) hr hj
    have e2 : (GSc b).ga ro j = (GL (b + 423) 6 5).ga ro j := rfl
    omega
def ESH (b : Nat) : Nat → Prop := fun a => b + 423 ≤ a ∧ a < b + 611
theorem dgp_SH (b : Nat) (X : Nat → Prop) : DGp (wsB b) (SAB b X) (ESH b) (GSc b) (GTh b) := ⟨gso_S b X, gso_H b X, dj_SH b, dj_HS b, ⟨rfl, rfl, rfl, rfl⟩, fun a q => by have := eg_S q; exact ⟨by omega, by omega⟩, fun a q => by have := eg_H q; exact ⟨by omega, by omega⟩, djd_SH b, djd_HS b⟩
/-- second and third have changed -/
theorem CX.sh {g : GX} {b : Nat} {X : Nat → Prop} {V V' : AH} {Z Z' : Nat → Int} {S : TSt} {A : ASt} (h : CX g b X V Z S A) (hV : ∀ a, SAB b X a → ¬ (b + 423 ≤ a ∧ a < b + 611) → V' a = V a) (hZ : ∀ x, x < b + 423 → Z' x = Z x) (n3 : DKV (wsB b) (SAB b X) V' Z' (DG (b + 423)) ∧ DKV (wsB b) (SAB b X) V' Z' (DG (b + 517))) (n1 : GDx g V' (b + 423 + 1) (GSc b)) (n2 : GDx g V' (b + 517 + 1) (GTh b)) : CX g b X V' Z' S A := by
  obtain ⟨hB, hTb, hOk, hD, hT, hA, hW, hSc, hTh, hAs, hFa, hMa, hMi⟩ := h
  refine ⟨⟨(hV _ (Or.inl rfl) (by omega)).trans hB.1, (hV _ (Or.inr (Or.inl rfl)) (by omega)).trans hB.2⟩, fun t ht => (hTb t ht).kept (hV _ (tb_sab ht).1 (by omega)) (hV _ (tb_sab ht).2.1 (by omega)) (hV _ (tb_sab ht).2.2 (by omega)), hOk, ⟨hD.1.kept (hV (b + 2) (Or.inr (Or.inr (Or.inl rfl))) (by omega)) (hZ (b + 3) (by omega)) (hZ (b + 5) (by omega)) (hZ (b + 7) (by omega)), hD.2.1.kept (hV (b + 159 + 1) hD.2.1.1 (by omega)) (hZ (b + 159 + 2) (by omega)) (hZ (b + 159 + 4) (by omega)) (hZ (b + 159 + 6) (by omega)), n3⟩, ?_, hA, ?_, n1, n2, hAs.kept (hV _ (sab_r (by omega)) (by omega)) (hV _ (sab_r (by omega)) (by omega)), hFa.kept (hV _ (sab_r (by omega)) (by omega)) (hV _ (sab_r (by omega)) (by omega)), ?_, ?_⟩
  · obtain ⟨ld, ρ, h1, h2⟩ := hT
    refine ⟨ld, ρ, h1.kept2 (fun a ha => hV a (sab_gT ha).1 (by have := (sab_gT (X := X) ha).2; omega)), fun i j hi hj => ?_⟩
    rw [← h2 i j hi hj]
    have h3 := am_T h1 (i := i) (j := j) (by have := hA.2.1; omega) (by have := hA.2.2.1; omega)
    exact hZ _ (by omega)
  · obtain ⟨h, w, ld, ρ, h1⟩ := hW
    exact ⟨h, w, ld, ρ, h1.kept2 (fun a ha => hV a (sab_gW ha).1 (by have := (sab_gW (X := X) ha).2; omega))⟩
  · obtain ⟨F, h1⟩ := hMa
    exact ⟨F, (hV _ (sab_t (by omega)) (by omega)).trans h1⟩
  · obtain ⟨F, h1⟩ := hMi
    exact ⟨F, (hV _ (sab_t (by omega)) (by omega)).trans h1⟩
theorem nf_SH {b : Nat} {Z Z' : Nat → Int} (h : NF2 (GSc b) (GTh b) Z Z') {x : Nat} (hx : x < b + 423 ∨ b + 611 ≤ x) : Z' x = Z x := h x (by show x ≠ b + 423 + 16; omega) (by show x ≠ b + 423 + 18; omega) (fun ro hr j hj q => by
    have h1 := gl_cell (t0 := b + 423) (mr := 6) (mc := 5) hr hj
    have e : (GSc b).ga ro j = (GL (b + 423) 6 5).ga ro j := rfl
    omega) (by show x ≠ b + 517 + 16; omega) (by show x ≠ b + 517 + 18; omega) (fun ro hr j hj q => by
    have h1 := gl_cell (t0 := b + 517) (mr := 6) (mc := 5) hr hj
    have e : (GTh b).ga ro j = (GL (b + 517) 6 5).ga ro j := rfl
    omega)
/-- the two Grids stand for tellSizes -/
theorem sh_facts {b : Nat} {X : Nat → Prop} {F T : GG} (h : (F = GSc b ∧ T = GTh b) ∨ (F = GTh b ∧ T = GSc b)) : GSt (wsB b) (SAB b X) (DB b) F ∧ (F.mr = 6 ∧ F.mc = 5) ∧ ∀ ro, F.RS ro → ∀ j, j < 5 → (b + 447 ≤ F.ga ro j ∧ F.ga ro j < b + 517) ∨ (b + 541 ≤ F.ga ro j ∧ F.ga ro j < b + 611) := by
  rcases h with ⟨rfl, rfl⟩ | ⟨rfl, rfl⟩
  · exact ⟨gst_S b X, ⟨rfl, rfl⟩, fun ro hr j hj => by
      have h1 := gl_cell (t0 := b + 423) (mr := 6) (mc := 5) hr hj
      have e : (GSc b).ga ro j = (GL (b + 423) 6 5).ga ro j := rfl
      omega⟩
  · exact ⟨gst_H b X, ⟨rfl, rfl⟩, fun ro hr j hj => by
      have h1 := gl_cell (t0 := b + 517) (mr := 6) (mc := 5) hr hj
      have e : (GTh b).ga ro j = (GL (b + 517) 6 5).ga ro j := rfl
      omega⟩
theorem sh_gd {g : GX} {b : Nat} {V : AH} {F T : GG} (h : (F = GSc b ∧ T = GTh b) ∨ (F = GTh b ∧ T = GSc b)) (h1 : GDx g V (DG F.gd).dk F) (h2 : GDx g V (DG T.gd).dk T) : GDx g V (b + 423 + 1) (GSc b) ∧ GDx g V (b + 517 + 1) (GTh b) := by
  rcases h with ⟨rfl, rfl⟩ | ⟨rfl, rfl⟩
  · exact ⟨h1, h2⟩
  · exact ⟨h2, h1⟩
theorem sh_dk {b : Nat} {X : Nat → Prop} {V : AH} {Z : Nat → Int} {F T : GG} (h : (F = GSc b ∧ T = GTh b) ∨ (F = GTh b ∧ T = GSc b)) (h1 : DKV (wsB b) (SAB b X) V Z (DG F.gd) ∧ DKV (wsB b) (SAB b X) V Z (DG T.gd)) : DKV (wsB b) (SAB b X) V Z (DG (b + 423)) ∧ DKV (wsB b) (SAB b X) V Z (DG (b + 517)) := by
  rcases h with ⟨rfl, rfl⟩ | ⟨rfl, rfl⟩
  · exact ⟨h1.1, h1.2⟩
  · exact ⟨h1.2, h1.1⟩
/-- a greatest minor that isn't 0 -/
theorem mnb_of {A B : Mat} {h w n : Nat} {l : Nat → Nat} {c : Int} (e : Ech A h w l) (hs : SpEq B n A h w) (hc0 : 0 ≤ c) (hb : ∀ i j, i < n → j < w → ab (B i j) ≤ c) (hc : fac h * c ^ h ≤ CBd) : MnB A h w := by
  have h1 : ∃ p q : Nat → Nat, (∀ a, a < h → p a < n) ∧ (∀ b, b < h → q b < w) ∧ det h (fun a b => B (p a) (q b)) ≠ 0 := Classical.byContradiction (fun z => ech_not0 e ((DVT.eq hs).mp (fun p q hp hq => by
    have h2 : det h (fun a b => B (p a) (q b)) = 0 := Classical.byContradiction (fun y => z ⟨p, q, hp, hq, y⟩)
    rw [h2]
    exact dvd_z 0)))
  obtain ⟨p, q, hp, hq, h2⟩ := h1
  refine ⟨_, h2, Int.le_trans (det_ab hc0 (fun i j hi hj => hb _ _ (hp i hi) (hq j hj))) hc, fun d hd => (DVT.eq hs).mpr hd p q hp hq⟩
theorem kb_cbd : ∀ w : Fin 6, KB w 1000 ≤ CBd := by unfold CBd; decide +kernel
theorem fac_cbd : ∀ h : Fin 6, fac h * 1000 ^ (h : Nat) ≤ CBd := by unfold CBd; decide +kernel
theorem AIs.cong {A : ASt} {h w : Nat} {M M' : Mat} (k : AIs A h w M) (e : ∀ i j, i < h → j < w → M i j = M' i j) : AIs A h w M' := ⟨k.1, k.2.1, k.2.2.1, fun i j hi hj => (k.2.2.2 i j hi hj).trans (e i j hi hj)⟩
/-- what is said of one table -/
def OneR (S : TSt) (A : ASt) (t no : Int) (R : Nat → Option Value → ASt → Prop) : Option Value → TSt → ASt → Prop := fun q S' A' => S' = S ∧ ((∃ n : Nat, n < 12 ∧ t = (n : Int) ∧ 0 < S.r n ∧ R n q A') ∨ ((∀ n : Nat, n < 12 → t = (n : Int) → S.r n = 0) ∧ some (.int (iZ no)) = q ∧ A' = A))
def SizR (S : TSt) (x : Nat) (q : Option Value) (A' : ASt) : Prop := ∃ (n : Nat) (G : Nat → Int), n ≤ 5 ∧ (∀ k, k ≤ n → GcP k (TM (S.N x)) (S.r x) (S.c x) (G k) ∧ G k ≠ 0) ∧ (n < 5 → GcP (n + 1) (TM (S.N x)) (S.r x) (S.c x) 0) ∧ some (.int (iZ n)) = q ∧ AIs A' (if n = 0 then 0 else 1) n (fun _ j => G (j + 1) / G j)
theorem gcp_chain {A0 : Mat} {h w : Nat} {dd : Nat → Int} (hpos : ∀ a, a < h → 0 < dd a) (hch : ∀ i, i + 1 < h → dd i ∣ dd (i + 1)) (hdv : ∀ (n : Nat) (d : Int), DVT n A0 h w d ↔ DVT n (Dg dd) h h d) {k : Nat} (hk : k ≤ h) : GcP k A0 h w (Pd dd k) ∧ 1 ≤ Pd dd k := by
  have h1 : 1 ≤ Pd dd k := Pd_pos (fun i hi => by have := hpos i (by omega); omega)
  exact ⟨⟨by omega, fun d => (dg_div (Nat.le_refl _) hch hk).symm.trans (hdv k d).symm⟩, h1⟩
theorem GcP.eq {A B : Mat} {k n m w : Nat} {G : Int} (hs : SpEq A n B m w) (h : GcP k B m w G) : GcP k A n w G := ⟨h.1, fun d => (h.2 d).trans (DVT.eq hs).symm⟩
abbrev mX5_sizes : MI := (yX5_sizes, cX5_sizes, 3, (some FieldType.int), noX)
theorem dX5_sizes_0 : decode cX5_sizes 0 = .ok (.aload_n 0, 1) := by decide +kernel
theorem dX5_sizes_1 : decode cX5_sizes 1 = .ok (.iload_n 1, 1) := by decide +kernel
theorem dX5_sizes_2 : decode cX5_sizes 2 = .ok (.invokevirtual 72, 3) := by decide +kernel
theorem dX5_sizes_5 : decode cX5_sizes 5 = .ok (.astore_n 2, 1) := by decide +kernel
theorem dX5_sizes_6 : decode cX5_sizes 6 = .ok (.aload_n 2, 1) := by decide +kernel
theorem dX5_sizes_7 : decode cX5_sizes 7 = .ok (.ifnonnull 5, 3) := by decide +kernel
theorem dX5_sizes_10 : decode cX5_sizes 10 = .ok (.iconst (-1), 1) := by decide +kernel
theorem dX5_sizes_11 : decode cX5_sizes 11 = .ok (.ireturn, 1) := by decide +kernel
theorem dX5_sizes_12 : decode cX5_sizes 12 = .ok (.aload_n 0, 1) := by decide +kernel
theorem dX5_sizes_13 : decode cX5_sizes 13 = .ok (.getfield 38, 3) := by decide +kernel
theorem dX5_sizes_16 : decode cX5_sizes 16 = .ok (.aload_n 2, 1) := by decide +kernel
theorem dX5_sizes_17 : decode cX5_sizes 17 = .ok (.invokevirtual 103, 3) := by decide +kernel
theorem dX5_sizes_20 : decode cX5_sizes 20 = .ok (.aload_n 0, 1) := by decide +kernel
theorem dX5_sizes_21 : decode cX5_sizes 21 = .ok (.aload_n 0, 1) := by decide +kernel
theorem dX5_sizes_22 : decode cX5_sizes 22 = .ok (.getfield 38, 3) := by decide +kernel
theorem dX5_sizes_25 : decode cX5_sizes 25 = .ok (.aload_n 0, 1) := by decide +kernel
theorem dX5_sizes_26 : decode cX5_sizes 26 = .ok (.getfield 41, 3) := by decide +kernel
theorem dX5_sizes_29 : decode cX5_sizes 29 = .ok (.invokestatic 167, 3) := by decide +kernel
theorem dX5_sizes_32 : decode cX5_sizes 32 = .ok (.iconst 1, 1) := by decide +kernel
theorem dX5_sizes_33 : decode cX5_sizes 33 = .ok (.invokevirtual 171, 3) := by decide +kernel
theorem dX5_sizes_36 : decode cX5_sizes 36 = .ok (.ireturn, 1) := by decide +kernel
set_option maxRecDepth 20000 in
theorem c_sizes {g : GX} {b : Nat} {X : Nat → Prop} {V : AH} {sz : Nat} {Z : Nat → Int} {S : TSt} {A : ASt} (d : Nat) {t : Int} {P L : Nat → Nat} (hw0 : WG g (wsB b) (SAB b X) V sz Z P L) (h : CX g b X V Z S A) (ht : R32 t) : AMet g mX5_sizes (d + 8) [.ref b, .int (iZ t)] V sz (CE g b X V sz L (OneR S A t (-1) (SizR S))) := by
  obtain ⟨⟨hb, hb1⟩, hTb, hOk, -⟩ := id h
  obtain ⟨v, hv⟩ := FindV.ex S b t
  rcases hv with ⟨n, hn, rfl, hr, rfl⟩ | ⟨hno, rfl⟩
  · obtain ⟨hr5, hc5, -⟩ := hOk n hn
    obtain ⟨h0, w0, ld0, ρ0, hG0⟩ := h.2.2.2.2.2.2.2.1
    have hgd0 : V (b + 423) = _ := hG0.1
    refine AMet.of rfl rfl (Nat.le_of_ble_eq_true rfl) ?_
    show AW g mX5_sizes (d + 8) 0 [(0, .ref b), (1, .int (iZ n))] [] V sz _
    refine aw_aload_n dX5_sizes_0 (by rfl) (Or.inr ⟨_, rfl⟩) ?_
    refine aw_iload_n dX5_sizes_1 (by rfl) ?_
    refine aw_callv vX5_72 dX5_sizes_2 hb (t_find (d + 6) h ht (Or.inl ⟨n, hn, rfl, hr, rfl⟩)) (by rfl) (by rfl) (by omega) (Nat.le_of_ble_eq_true rfl) ?_
    rintro _ _ _ _ _ ⟨rfl, rfl, rfl, rfl, rfl⟩ -
    refine q0 ?_
    refine aw_astore_n dX5_sizes_5 (by decide) (Or.inr ⟨_, rfl⟩) ?_
    refine aw_aload_n dX5_sizes_6 (by rfl) (Or.inr ⟨_, rfl⟩) ?_
    refine aw_ifnonnull_r (tgt := 12) dX5_sizes_7 (by decide) ?_
    refine aw_aload_n dX5_sizes_12 (by rfl) (Or.inr ⟨_, rfl⟩) ?_
    refine aw_get fX5_38 dX5_sizes_13 hb (by rfl) ?_
    refine aw_aload_n dX5_sizes_16 (by rfl) (Or.inr ⟨_, rfl⟩) ?_
    refine aw_callv vX5_103 dX5_sizes_17 hgd0 (c_reachS d hw0 h hn) (by rfl) (by rfl) (by omega) (Nat.le_of_ble_eq_true rfl) ?_
    rintro _ V1 sz1 mc1 ms1 ⟨Z1, P1, L1, ⟨rfl, hcx1, ⟨h1, ld1, l1, ρ1, hg1⟩, -⟩, hs1⟩ -
    refine WE.stp hs1 ?_
    have hb1' := hcx1.1.1
    have hle := hg1.2.2.1.1.le_w
    have hmn : MnB (AM (GSc b) Z1 ρ1) h1 (S.c n) := mnb_of hg1.2.2.1.1 hg1.2.2.2 (c := 1000) (by omega) (hOk.tb hn) (fac_cbd ⟨h1, by omega⟩)
    have hdg : DGs g (wsB b) (SAB b X) (GSc b) (GTh b) (AM (GSc b) Z1 ρ1) (S.c n) Z1 V1 Z1 h1 (S.c n) l1 ρ1 := ⟨⟨hcx1.2.2.2.1.2.2.1, hcx1.2.2.2.1.2.2.2⟩, ⟨ld1, hg1.1, hg1.2.1⟩, hg1.2.2.1, fun i j hi hj => Int.le_trans ((hg1.sm (by omega) (hOk.tb hn)).1 i j hi hj) (kb_cbd ⟨S.c n, by omega⟩), fun _ _ => Iff.rfl, hcx1.2.2.2.2.2.2.2.2.1, NF2.rf⟩
    refine aw_aload_n dX5_sizes_20 (by rfl) (Or.inr ⟨_, rfl⟩) ?_
    refine aw_aload_n dX5_sizes_21 (by rfl) (Or.inr ⟨_, rfl⟩) ?_
    refine aw_get fX5_38 dX5_sizes_22 hb1' (by rfl) ?_
    refine aw_aload_n dX5_sizes_25 (by rfl) (Or.inr ⟨_, rfl⟩) ?_
    refine aw_get fX5_41 dX5_sizes_26 hb1' (by rfl) ?_
    refine aw_calls sX5_167 dX5_sizes_29 (t_diagonalOf g d (G1 := GSc b) (G2 := GTh b) (dgp_SH b X) (by omega) hc5 hmn hs1.1 hdg) (by rfl) (by rfl) (by omega) (Nat.le_of_ble_eq_true rfl) ?_
    rintro _ V2 sz2 mc2 ms2 ⟨Z2, P2, L2, ⟨F, T, hFT, rfl, hD2, hT2, hN2, w2, ld2, ρ2, dd, hF2, hw2, hw25, hpos, hdd, hdv⟩, hs2⟩ -
    refine WE.stp (hs2.weak (fun a z => ⟨by have := z.1; omega, by have := z.2; omega⟩)) ?_
    obtain ⟨hSF, hm, hrg⟩ := sh_facts (X := X) hFT
    obtain ⟨n1, n2⟩ := sh_gd hFT ⟨h1, w2, ld2, ρ2, hF2⟩ hT2
    have hcx2 : CX g b X V2 Z2 S A := hcx1.sh (fun a ha hn => hs2.2.2.1 a ha hn) (fun x hx => nf_SH hN2 (by omega)) (sh_dk hFT hD2) n1 n2
    have hb2 := hcx2.1.1
    refine aw_iconstZ dX5_sizes_32 ?_
    refine aw_callv vX5_171 dX5_sizes_33 hb2 (t_tellSizes d (op := 1) hcx2 hSF hm hrg hF2 (by omega) (Or.inr rfl) hmn hpos hdv (fun a ha => (hdd a a ha (by omega)).trans (dg_d dd a)) hs2.1) (by rfl) (by rfl) (by omega) (Nat.le_of_ble_eq_true rfl) ?_
    rintro _ V3 sz3 mc3 ms3 ⟨Z3, P3, L3, ⟨S3, A3, hcx3, e3, d3, M3, hp3, hc3, hv3, rfl, hM3, hAI⟩, hs3⟩ -
    refine WE.stp hs3 ?_
    rw [e3] at hcx3
    refine aw_iret dX5_sizes_36 rfl (by rfl) ?_
    have hG := fun k hk => gcp_chain hp3 hc3 hv3 (k := k) hk
    rw [szc_all] at hAI
    refine WE.ret hs3.1 ⟨S, A3, hcx3, rfl, Or.inl ⟨n, hn, rfl, hr, h1, Pd d3, by omega, fun k hk => ⟨(hG k hk).1.eq hg1.2.2.2, by have := (hG k hk).2; omega⟩, fun _ => GcP.eq hg1.2.2.2 ⟨Int.le_refl _, fun d => ⟨fun _ => DVT.void (by omega), fun _ => dvd_z d⟩⟩, by rw [szc_all], ?_⟩⟩
    refine hAI.cong (fun i j hi hj => ?_)
    have h5 := hM3 j hj (Or.inl rfl)
    rw [szc_all] at h5
    show M3 j = Pd d3 j * d3 j / Pd d3 j
    rw [h5]
    exact (Int.mul_ediv_cancel_left _ (by have := (hG j (by omega)).2; omega)).symm
  · skip
    refine AMet.of rfl rfl (Nat.le_of_ble_eq_true rfl) ?_
    show AW g mX5_sizes (d + 8) 0 [(0, .ref b), (1, .int (iZ t))] [] V sz _
    refine aw_aload_n dX5_sizes_0 (by rfl) (Or.inr ⟨_, rfl⟩) ?_
    refine aw_iload_n dX5_sizes_1 (by rfl) ?_
    refine aw_callv vX5_72 dX5_sizes_2 hb (t_find (d + 6) h ht (Or.inr ⟨hno, rfl⟩)) (by rfl) (by rfl) (by omega) (Nat.le_of_ble_eq_true rfl) ?_
    rintro _ _ _ _ _ ⟨rfl, rfl, rfl, rfl, rfl⟩ -
    refine q0 ?_
    refine aw_astore_n dX5_sizes_5 (by decide) (Or.inl rfl) ?_
    refine aw_aload_n dX5_sizes_6 (by rfl) (Or.inl rfl) ?_
    refine aw_ifnonnull_n dX5_sizes_7 ?_
    refine aw_iconstZ dX5_sizes_10 ?_
    refine aw_iret dX5_sizes_11 rfl (by rfl) ?_
    exact WE.ret hw0 ⟨S, A, h, rfl, Or.inr ⟨hno, rfl, rfl⟩⟩

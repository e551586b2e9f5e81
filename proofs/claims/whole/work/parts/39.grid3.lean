/-! ===== Grid: begin, rowsLeadingBefore, isDiagonal, isWrittenIn, multiplyLeads ===== -/
theorem AHu_id {V : AH} {a : Nat} {e : va_E} (h : V a = some e) : AHu V a e = V := by
  funext b; unfold AHu; split
  · rename_i q; rw [q]; exact h.symm
  · rfl
abbrev mX1_begin : MI := (yX1_begin, cX1_begin, 2, none, noX)
theorem dX1_begin_0 : decode cX1_begin 0 = .ok (.aload_n 0, 1) := by decide +kernel
theorem dX1_begin_1 : decode cX1_begin 1 = .ok (.iconst 0, 1) := by decide +kernel
theorem dX1_begin_2 : decode cX1_begin 2 = .ok (.putfield 28, 3) := by decide +kernel
theorem dX1_begin_5 : decode cX1_begin 5 = .ok (.aload_n 0, 1) := by decide +kernel
theorem dX1_begin_6 : decode cX1_begin 6 = .ok (.iload_n 1, 1) := by decide +kernel
theorem dX1_begin_7 : decode cX1_begin 7 = .ok (.putfield 32, 3) := by decide +kernel
theorem dX1_begin_10 : decode cX1_begin 10 = .ok (.return_, 1) := by decide +kernel
theorem t_gbegin (g : GX) (d : Nat) {V : AH} {sz : Nat} {G : GG} {dk h w : Nat} {ld : Nat → Int} {ρ : Nat → Nat} {w' : Nat} (hG : GD g V dk G h w ld ρ) : AMet g mX1_begin d [.ref G.gd, .int (iZ w')] V sz (Ex none (AHu V G.gd (grO G.ra G.la dk G.fa G.pr (0 : Nat) w')) sz 0 0) := by
  obtain ⟨hgd, hra, hla, hrow, hRS, hinj⟩ := id hG
  refine AMet.of rfl rfl (Nat.le_of_ble_eq_true rfl) ?_
  show AW g mX1_begin d 0 [(0, .ref G.gd), (1, .int (iZ w'))] [] V sz _
  refine aw_aload_n dX1_begin_0 (by rfl) (Or.inr ⟨_, rfl⟩) ?_
  refine aw_iconstZ dX1_begin_1 ?_
  refine aw_put fX1_28 dX1_begin_2 (by assumption) (by rfl) (by rfl) (Nat.le_of_ble_eq_true rfl) ?_
  have hgd1 : (AHu V G.gd (grO G.ra G.la dk G.fa G.pr (0 : Nat) w)) G.gd = some (grO G.ra G.la dk G.fa G.pr (0 : Nat) w) := AHu_self _ _ _
  show AW g mX1_begin d _ _ _ (AHu V G.gd (grO G.ra G.la dk G.fa G.pr (0 : Nat) w)) _ _
  refine aw_aload_n dX1_begin_5 (by rfl) (Or.inr ⟨_, rfl⟩) ?_
  refine aw_iload_n dX1_begin_6 (by rfl) ?_
  refine aw_put fX1_32 dX1_begin_7 (by assumption) (by rfl) (by rfl) (Nat.le_of_ble_eq_true rfl) ?_
  refine aw_ret dX1_begin_10 rfl ?_
  show Ex none _ sz 0 0 none (AHu (AHu V G.gd (grO G.ra G.la dk G.fa G.pr (0 : Nat) w)) G.gd (grO G.ra G.la dk G.fa G.pr (0 : Nat) w')) sz 0 0
  rw [AHu_AHu]
  exact ⟨rfl, rfl, rfl, rfl, rfl⟩
theorem GD.begin {g : GX} {ws : List Nat} {SA : Nat → Prop} {V : AH} {D : DT} {G : GG} {h w : Nat} {ld : Nat → Int} {ρ : Nat → Nat} (hS : GSt ws SA D G) (hG : GD g V D.dk G h w ld ρ) (h' w' : Nat) : GD g (AHu V G.gd (grO G.ra G.la D.dk G.fa G.pr h' w')) D.dk G h' w' ld ρ := by
  obtain ⟨-, ⟨n1, n2, n3, -⟩, -, s4, -⟩ := hS
  obtain ⟨h1, h2, h3, h4, h5⟩ := hG
  exact ⟨AHu_self _ _ _, by rw [AHu_ne n1.symm]; exact h2, by rw [AHu_ne n2.symm]; exact h3, fun ro hr => (h4 ro hr).kept (AHu_ne (s4 ro hr).2.2.1.1) (AHu_ne (s4 ro hr).2.2.2.1), h5⟩
abbrev mX1_rowsLeadingBefore : MI := (yX1_rowsLeadingBefore, cX1_rowsLeadingBefore, 3, (some FieldType.int), noX)
theorem dX1_rowsLeadingBefore_0 : decode cX1_rowsLeadingBefore 0 = .ok (.iconst 0, 1) := by decide +kernel
theorem dX1_rowsLeadingBefore_1 : decode cX1_rowsLeadingBefore 1 = .ok (.istore_n 2, 1) := by decide +kernel
theorem dX1_rowsLeadingBefore_2 : decode cX1_rowsLeadingBefore 2 = .ok (.iload_n 2, 1) := by decide +kernel
theorem dX1_rowsLeadingBefore_3 : decode cX1_rowsLeadingBefore 3 = .ok (.aload_n 0, 1) := by decide +kernel
theorem dX1_rowsLeadingBefore_4 : decode cX1_rowsLeadingBefore 4 = .ok (.getfield 28, 3) := by decide +kernel
theorem dX1_rowsLeadingBefore_7 : decode cX1_rowsLeadingBefore 7 = .ok (.if_icmp .ge 19, 3) := by decide +kernel
theorem dX1_rowsLeadingBefore_10 : decode cX1_rowsLeadingBefore 10 = .ok (.aload_n 0, 1) := by decide +kernel
theorem dX1_rowsLeadingBefore_11 : decode cX1_rowsLeadingBefore 11 = .ok (.getfield 35, 3) := by decide +kernel
theorem dX1_rowsLeadingBefore_14 : decode cX1_rowsLeadingBefore 14 = .ok (.iload_n 2, 1) := by decide +kernel
theorem dX1_rowsLeadingBefore_15 : decode cX1_rowsLeadingBefore 15 = .ok (.iaload, 1) := by decide +kernel
theorem dX1_rowsLeadingBefore_16 : decode cX1_rowsLeadingBefore 16 = .ok (.iload_n 1, 1) := by decide +kernel
theorem dX1_rowsLeadingBefore_17 : decode cX1_rowsLeadingBefore 17 = .ok (.if_icmp .ge 9, 3) := by decide +kernel
theorem dX1_rowsLeadingBefore_20 : decode cX1_rowsLeadingBefore 20 = .ok (.iinc 2 1, 3) := by decide +kernel
theorem dX1_rowsLeadingBefore_23 : decode cX1_rowsLeadingBefore 23 = .ok (.goto (-21), 3) := by decide +kernel
theorem dX1_rowsLeadingBefore_26 : decode cX1_rowsLeadingBefore 26 = .ok (.iload_n 2, 1) := by decide +kernel
theorem dX1_rowsLeadingBefore_27 : decode cX1_rowsLeadingBefore 27 = .ok (.ireturn, 1) := by decide +kernel
theorem rb_loop (g : GX) (d : Nat) {V : AH} {sz : Nat} {G : GG} {dk h w col t : Nat} {l : Nat → Nat} {ld : Nat → Int} {ρ : Nat → Nat} (hG : GD g V dk G h w ld ρ) (hhm : h ≤ G.mr ∧ G.mr < 100 ∧ w < 100 ∧ col < 100) (hld : ∀ i, i < h → ld i = (l i : Int)) (hlw : ∀ i, i < h → l i < w) (ht : t ≤ h ∧ (∀ i, i < t → l i < col) ∧ (t < h → col ≤ l t)) : ∀ (x i : Nat), i + x = h → i ≤ t → AW g mX1_rowsLeadingBefore d 2 [(2, .int (iZ i)), (0, .ref G.gd), (1, .int (iZ col))] [] V sz (Ex (some (.int (iZ t))) V sz 0 0)
  | 0, i, hx, hit => by
    obtain ⟨hgd, hra, hla, hrow, hRS, hinj⟩ := id hG
    refine aw_iload_n dX1_rowsLeadingBefore_2 (by rfl) ?_
    refine aw_aload_n dX1_rowsLeadingBefore_3 (by rfl) (Or.inr ⟨_, rfl⟩) ?_
    refine aw_get fX1_28 dX1_rowsLeadingBefore_4 (by assumption) (by rfl) ?_
    refine aw_icmp_geZ (tgt := 26) dX1_rowsLeadingBefore_7 (by decide) (by omega) (by omega) (fun hc_7 => ?_) (fun hc_7 => ?_)
    · refine aw_iload_n dX1_rowsLeadingBefore_26 (by rfl) ?_
      refine aw_iret dX1_rowsLeadingBefore_27 rfl (by rfl) ?_
      obtain rfl : i = t := by omega
      exact ⟨rfl, rfl, rfl, rfl, rfl⟩
    · exact absurd hc_7 (by omega)
  | x + 1, i, hx, hit => by
    obtain ⟨hgd, hra, hla, hrow, hRS, hinj⟩ := id hG
    have IH := fun i hi => rb_loop g d (sz := sz) hG hhm hld hlw ht x i hi
    refine aw_iload_n dX1_rowsLeadingBefore_2 (by rfl) ?_
    refine aw_aload_n dX1_rowsLeadingBefore_3 (by rfl) (Or.inr ⟨_, rfl⟩) ?_
    refine aw_get fX1_28 dX1_rowsLeadingBefore_4 (by assumption) (by rfl) ?_
    refine aw_icmp_geZ (tgt := 26) dX1_rowsLeadingBefore_7 (by decide) (by omega) (by omega) (fun hc_7 => ?_) (fun hc_7 => ?_)
    · exact absurd hc_7 (by omega)
    · have hli := hld i (by omega)
      have hlw := hlw i (by omega)
      refine aw_aload_n dX1_rowsLeadingBefore_10 (by rfl) (Or.inr ⟨_, rfl⟩) ?_
      refine aw_get fX1_35 dX1_rowsLeadingBefore_11 (by assumption) (by rfl) ?_
      refine aw_iload_n dX1_rowsLeadingBefore_14 (by rfl) ?_
      refine aw_ialdZ (i) dX1_rowsLeadingBefore_15 (by assumption) (by omega) (by omega) (by omega) ?_
      refine aw_iload_n dX1_rowsLeadingBefore_16 (by rfl) ?_
      refine aw_icmp_geZ (tgt := 26) dX1_rowsLeadingBefore_17 (by decide) (by omega) (by omega) (fun hc_17 => ?_) (fun hc_17 => ?_)
      · refine aw_iload_n dX1_rowsLeadingBefore_26 (by rfl) ?_
        refine aw_iret dX1_rowsLeadingBefore_27 rfl (by rfl) ?_
        obtain rfl : i = t := by
          rcases Nat.lt_trichotomy i t with q | q | q
          · have := ht.2.1 i q; omega
          · exact q
          · omega
        exact ⟨rfl, rfl, rfl, rfl, rfl⟩
      · refine aw_iincZ dX1_rowsLeadingBefore_20 (by rfl) (by decide) ?_
        refine aw_goto (tgt := 2) dX1_rowsLeadingBefore_23 (by decide) ?_
        rw [show ((i : Int) + 1) = ((i + 1 : Nat) : Int) by omega]
        refine aw_pk [2, 0, 1] (by rfl) ?_
        exact IH (i + 1) (by omega) (by rcases Nat.lt_or_ge i t with q | q; exact q; have := ht.2.2 (by omega); obtain rfl : i = t := (by omega); omega)
theorem t_rowsLeadingBefore (g : GX) (d : Nat) {V : AH} {sz : Nat} {G : GG} {dk h w col t : Nat} {l : Nat → Nat} {ld : Nat → Int} {ρ : Nat → Nat} (hG : GD g V dk G h w ld ρ) (hhm : h ≤ G.mr ∧ G.mr < 100 ∧ w < 100 ∧ col < 100) (hld : ∀ i, i < h → ld i = (l i : Int)) (hlw : ∀ i, i < h → l i < w) (ht : t ≤ h ∧ (∀ i, i < t → l i < col) ∧ (t < h → col ≤ l t)) : AMet g mX1_rowsLeadingBefore d [.ref G.gd, .int (iZ col)] V sz (Ex (some (.int (iZ t))) V sz 0 0) := by
  refine AMet.of rfl rfl (Nat.le_of_ble_eq_true rfl) ?_
  show AW g mX1_rowsLeadingBefore d 0 [(0, .ref G.gd), (1, .int (iZ col))] [] V sz _
  refine aw_iconstZ dX1_rowsLeadingBefore_0 ?_
  refine aw_istore_n dX1_rowsLeadingBefore_1 (by decide) ?_
  refine aw_pk [2, 0, 1] (by rfl) ?_
  exact rb_loop g d hG hhm hld hlw ht h 0 (by omega) (by omega)
abbrev mX1_isDiagonal : MI := (yX1_isDiagonal, cX1_isDiagonal, 3, (some FieldType.boolean), noX)
theorem dX1_isDiagonal_0 : decode cX1_isDiagonal 0 = .ok (.iconst 0, 1) := by decide +kernel
theorem dX1_isDiagonal_1 : decode cX1_isDiagonal 1 = .ok (.istore_n 1, 1) := by decide +kernel
theorem dX1_isDiagonal_2 : decode cX1_isDiagonal 2 = .ok (.iload_n 1, 1) := by decide +kernel
theorem dX1_isDiagonal_3 : decode cX1_isDiagonal 3 = .ok (.aload_n 0, 1) := by decide +kernel
theorem dX1_isDiagonal_4 : decode cX1_isDiagonal 4 = .ok (.getfield 28, 3) := by decide +kernel
theorem dX1_isDiagonal_7 : decode cX1_isDiagonal 7 = .ok (.if_icmp .ge 62, 3) := by decide +kernel
theorem dX1_isDiagonal_10 : decode cX1_isDiagonal 10 = .ok (.iconst 0, 1) := by decide +kernel
theorem dX1_isDiagonal_11 : decode cX1_isDiagonal 11 = .ok (.istore_n 2, 1) := by decide +kernel
theorem dX1_isDiagonal_12 : decode cX1_isDiagonal 12 = .ok (.iload_n 2, 1) := by decide +kernel
theorem dX1_isDiagonal_13 : decode cX1_isDiagonal 13 = .ok (.aload_n 0, 1) := by decide +kernel
theorem dX1_isDiagonal_14 : decode cX1_isDiagonal 14 = .ok (.getfield 32, 3) := by decide +kernel
theorem dX1_isDiagonal_17 : decode cX1_isDiagonal 17 = .ok (.if_icmp .ge 46, 3) := by decide +kernel
theorem dX1_isDiagonal_20 : decode cX1_isDiagonal 20 = .ok (.aload_n 0, 1) := by decide +kernel
theorem dX1_isDiagonal_21 : decode cX1_isDiagonal 21 = .ok (.getfield 41, 3) := by decide +kernel
theorem dX1_isDiagonal_24 : decode cX1_isDiagonal 24 = .ok (.iload_n 1, 1) := by decide +kernel
theorem dX1_isDiagonal_25 : decode cX1_isDiagonal 25 = .ok (.aaload, 1) := by decide +kernel
theorem dX1_isDiagonal_26 : decode cX1_isDiagonal 26 = .ok (.getfield 65, 3) := by decide +kernel
theorem dX1_isDiagonal_29 : decode cX1_isDiagonal 29 = .ok (.iload_n 2, 1) := by decide +kernel
theorem dX1_isDiagonal_30 : decode cX1_isDiagonal 30 = .ok (.aaload, 1) := by decide +kernel
theorem dX1_isDiagonal_31 : decode cX1_isDiagonal 31 = .ok (.getfield 85, 3) := by decide +kernel
theorem dX1_isDiagonal_34 : decode cX1_isDiagonal 34 = .ok (.ifCond .eq 7, 3) := by decide +kernel
theorem dX1_isDiagonal_37 : decode cX1_isDiagonal 37 = .ok (.iconst 1, 1) := by decide +kernel
theorem dX1_isDiagonal_38 : decode cX1_isDiagonal 38 = .ok (.goto 4, 3) := by decide +kernel
theorem dX1_isDiagonal_41 : decode cX1_isDiagonal 41 = .ok (.iconst 0, 1) := by decide +kernel
theorem dX1_isDiagonal_42 : decode cX1_isDiagonal 42 = .ok (.iload_n 1, 1) := by decide +kernel
theorem dX1_isDiagonal_43 : decode cX1_isDiagonal 43 = .ok (.iload_n 2, 1) := by decide +kernel
theorem dX1_isDiagonal_44 : decode cX1_isDiagonal 44 = .ok (.if_icmp .ne 7, 3) := by decide +kernel
theorem dX1_isDiagonal_47 : decode cX1_isDiagonal 47 = .ok (.iconst 1, 1) := by decide +kernel
theorem dX1_isDiagonal_48 : decode cX1_isDiagonal 48 = .ok (.goto 4, 3) := by decide +kernel
theorem dX1_isDiagonal_51 : decode cX1_isDiagonal 51 = .ok (.iconst 0, 1) := by decide +kernel
theorem dX1_isDiagonal_52 : decode cX1_isDiagonal 52 = .ok (.if_icmp .eq 5, 3) := by decide +kernel
theorem dX1_isDiagonal_55 : decode cX1_isDiagonal 55 = .ok (.iconst 0, 1) := by decide +kernel
theorem dX1_isDiagonal_56 : decode cX1_isDiagonal 56 = .ok (.ireturn, 1) := by decide +kernel
theorem dX1_isDiagonal_57 : decode cX1_isDiagonal 57 = .ok (.iinc 2 1, 3) := by decide +kernel
theorem dX1_isDiagonal_60 : decode cX1_isDiagonal 60 = .ok (.goto (-48), 3) := by decide +kernel
theorem dX1_isDiagonal_63 : decode cX1_isDiagonal 63 = .ok (.iinc 1 1, 3) := by decide +kernel
theorem dX1_isDiagonal_66 : decode cX1_isDiagonal 66 = .ok (.goto (-64), 3) := by decide +kernel
theorem dX1_isDiagonal_69 : decode cX1_isDiagonal 69 = .ok (.iconst 1, 1) := by decide +kernel
theorem dX1_isDiagonal_70 : decode cX1_isDiagonal 70 = .ok (.ireturn, 1) := by decide +kernel
theorem dg_in (g : GX) (d : Nat) {ws : List Nat} {SA : Nat → Prop} {V : AH} {sz : Nat} {Z : Nat → Int} {P L : Nat → Nat} {D : DT} {G : GG} {h w : Nat} {ld : Nat → Int} {ρ : Nat → Nat} {b : Int} (hw0 : WG g ws SA V sz Z P L) (hS : GSt ws SA D G) (hG : GD g V D.dk G h w ld ρ) (hhm : h ≤ G.mr) (hwm : w ≤ G.mc) (hb : (b = 1 ∧ (∀ i j, i < h → j < w → (Z (G.ga (ρ i) j) ≠ 0 ↔ i = j))) ∨ (b = 0 ∧ ¬ (∀ i j, i < h → j < w → (Z (G.ga (ρ i) j) ≠ 0 ↔ i = j)))) {i : Nat} (hi : i < h) (hKK : (∀ j, j < w → (Z (G.ga (ρ i) j) ≠ 0 ↔ i = j)) → AW g mX1_isDiagonal d 63 [(1, .int (iZ i)), (0, .ref G.gd)] [] V sz (Ex (some (.int (iZ b))) V sz 0 0)) : ∀ (x j : Nat), j + x = w → (∀ k, k < j → (Z (G.ga (ρ i) k) ≠ 0 ↔ i = k)) → AW g mX1_isDiagonal d 12 [(2, .int (iZ j)), (1, .int (iZ i)), (0, .ref G.gd)] [] V sz (Ex (some (.int (iZ b))) V sz 0 0)
  | 0, j, hx, hpre => by
    obtain ⟨hgd, hra, hla, hrow, hRS, hinj⟩ := id hG
    obtain ⟨-, -, -, -, hcell, -, hmr, hmc⟩ := id hS
    refine aw_iload_n dX1_isDiagonal_12 (by rfl) ?_
    refine aw_aload_n dX1_isDiagonal_13 (by rfl) (Or.inr ⟨_, rfl⟩) ?_
    refine aw_get fX1_32 dX1_isDiagonal_14 (by assumption) (by rfl) ?_
    refine aw_icmp_geZ (tgt := 63) dX1_isDiagonal_17 (by decide) (by omega) (by omega) (fun hc_17 => ?_) (fun hc_17 => ?_)
    · refine aw_pk [1, 0] (by rfl) ?_
      exact hKK (fun k hk => hpre k (by omega))
    · exact absurd hc_17 (by omega)
  | x + 1, j, hx, hpre => by
    obtain ⟨hgd, hra, hla, hrow, hRS, hinj⟩ := id hG
    obtain ⟨-, -, -, -, hcell, -, hmr, hmc⟩ := id hS
    have IH := fun j hj => dg_in g d hw0 hS hG hhm hwm hb hi hKK x j hj
    clear hKK
    refine aw_iload_n dX1_isDiagonal_12 (by rfl) ?_
    refine aw_aload_n dX1_isDiagonal_13 (by rfl) (Or.inr ⟨_, rfl⟩) ?_
    refine aw_get fX1_32 dX1_isDiagonal_14 (by assumption) (by rfl) ?_
    refine aw_icmp_geZ (tgt := 63) dX1_isDiagonal_17 (by decide) (by omega) (by omega) (fun hc_17 => ?_) (fun hc_17 => ?_)
    · exact absurd hc_17 (by omega)
    · obtain ⟨hri, hci, -⟩ := hrow _ (hRS i (by omega))
      obtain ⟨nn, FN, hWn⟩ := hw0.raw (hcell _ (hRS i (by omega)) j (by omega)).1.1
      have hWno := hWn.1
      refine aw_aload_n dX1_isDiagonal_20 (by rfl) (Or.inr ⟨_, rfl⟩) ?_
      refine aw_get fX1_41 dX1_isDiagonal_21 (by assumption) (by rfl) ?_
      refine aw_iload_n dX1_isDiagonal_24 (by rfl) ?_
      refine aw_aaldZ (t0 := 4) (i) (by rfl) dX1_isDiagonal_25 (by assumption) (by omega) (by omega) (by omega) ?_
      refine aw_get fX1_65 dX1_isDiagonal_26 (by assumption) (by rfl) ?_
      refine aw_iload_n dX1_isDiagonal_29 (by rfl) ?_
      refine aw_aaldZ (t0 := 5) (j) (by rfl) dX1_isDiagonal_30 (by assumption) (by omega) (by omega) (by omega) ?_
      refine aw_get fX1_85 dX1_isDiagonal_31 (by assumption) (by rfl) ?_
      refine aw_if_eqZ (tgt := 41) dX1_isDiagonal_34 (by decide) (sgn_R _) (fun hc_34 => ?_) (fun hc_34 => ?_)
      · refine aw_iconstZ dX1_isDiagonal_41 ?_
        refine aw_iload_n dX1_isDiagonal_42 (by rfl) ?_
        refine aw_iload_n dX1_isDiagonal_43 (by rfl) ?_
        refine aw_icmp_neZ (tgt := 51) dX1_isDiagonal_44 (by decide) (by omega) (by omega) (fun hc_44 => ?_) (fun hc_44 => ?_)
        · refine aw_iconstZ dX1_isDiagonal_51 ?_
          refine aw_icmp_eqZ (tgt := 57) dX1_isDiagonal_52 (by decide) (by omega) (by omega) (fun hc_52 => ?_) (fun hc_52 => ?_)
          · first
            | exact absurd hc_52 (by decide)
            | (have hPij : Z (G.ga (ρ i) j) ≠ 0 ↔ i = j := ⟨fun q => by first | omega | exact absurd (sgn0.mp hc_34) q, fun q => by first | exact absurd q (by omega) | exact fun q2 => hc_34 (sgn0.mpr q2)⟩
               clear hc_34 hc_44 hc_52
               refine aw_iincZ dX1_isDiagonal_57 (by rfl) (by decide) ?_
               refine aw_goto (tgt := 12) dX1_isDiagonal_60 (by decide) ?_
               rw [show ((j : Int) + 1) = ((j + 1 : Nat) : Int) by omega]
               refine aw_pk [2, 1, 0] (by rfl) ?_
               exact IH (j + 1) (by omega) (fun k hk => (Nat.lt_or_eq_of_le (Nat.le_of_lt_succ hk)).elim (hpre k) (fun q => q ▸ hPij)))
          · first
            | exact absurd rfl hc_52
            | (have hN : ¬ (Z (G.ga (ρ i) j) ≠ 0 ↔ i = j) := fun q => by first | exact absurd (q.mp (fun q2 => hc_34 (sgn0.mpr q2))) (by omega) | exact absurd (sgn0.mp hc_34) (q.mpr (by omega))
               obtain rfl : b = 0 := by
                 rcases hb with ⟨_, q⟩ | ⟨q, _⟩
                 · exact absurd (q i j (by omega) (by omega)) hN
                 · exact q
               refine aw_iconstZ dX1_isDiagonal_55 ?_
               refine aw_iret dX1_isDiagonal_56 rfl (by rfl) ?_
               exact ⟨rfl, rfl, rfl, rfl, rfl⟩)
        · refine aw_iconstZ dX1_isDiagonal_47 ?_
          refine aw_goto (tgt := 52) dX1_isDiagonal_48 (by decide) ?_
          refine aw_icmp_eqZ (tgt := 57) dX1_isDiagonal_52 (by decide) (by omega) (by omega) (fun hc_52 => ?_) (fun hc_52 => ?_)
          · first
            | exact absurd hc_52 (by decide)
            | (have hPij : Z (G.ga (ρ i) j) ≠ 0 ↔ i = j := ⟨fun q => by first | omega | exact absurd (sgn0.mp hc_34) q, fun q => by first | exact absurd q (by omega) | exact fun q2 => hc_34 (sgn0.mpr q2)⟩
               clear hc_34 hc_44 hc_52
               refine aw_iincZ dX1_isDiagonal_57 (by rfl) (by decide) ?_
               refine aw_goto (tgt := 12) dX1_isDiagonal_60 (by decide) ?_
               rw [show ((j : Int) + 1) = ((j + 1 : Nat) : Int) by omega]
               refine aw_pk [2, 1, 0] (by rfl) ?_
               exact IH (j + 1) (by omega) (fun k hk => (Nat.lt_or_eq_of_le (Nat.le_of_lt_succ hk)).elim (hpre k) (fun q => q ▸ hPij)))
          · first
            | exact absurd rfl hc_52
            | (have hN : ¬ (Z (G.ga (ρ i) j) ≠ 0 ↔ i = j) := fun q => by first | exact absurd (q.mp (fun q2 => hc_34 (sgn0.mpr q2))) (by omega) | exact absurd (sgn0.mp hc_34) (q.mpr (by omega))
               obtain rfl : b = 0 := by
                 rcases hb with ⟨_, q⟩ | ⟨q, _⟩
                 · exact absurd (q i j (by omega) (by omega)) hN
                 · exact q
               refine aw_iconstZ dX1_isDiagonal_55 ?_
               refine aw_iret dX1_isDiagonal_56 rfl (by rfl) ?_
               exact ⟨rfl, rfl, rfl, rfl, rfl⟩)
      · refine aw_iconstZ dX1_isDiagonal_37 ?_
        refine aw_goto (tgt := 42) dX1_isDiagonal_38 (by decide) ?_
        refine aw_iload_n dX1_isDiagonal_42 (by rfl) ?_
        refine aw_iload_n dX1_isDiagonal_43 (by rfl) ?_
        refine aw_icmp_neZ (tgt := 51) dX1_isDiagonal_44 (by decide) (by omega) (by omega) (fun hc_44 => ?_) (fun hc_44 => ?_)
        · refine aw_iconstZ dX1_isDiagonal_51 ?_
          refine aw_icmp_eqZ (tgt := 57) dX1_isDiagonal_52 (by decide) (by omega) (by omega) (fun hc_52 => ?_) (fun hc_52 => ?_)
          · first
            | exact absurd hc_52 (by decide)
            | (have hPij : Z (G.ga (ρ i) j) ≠ 0 ↔ i = j := ⟨fun q => by first | omega | exact absurd (sgn0.mp hc_34) q, fun q => by first | exact absurd q (by omega) | exact fun q2 => hc_34 (sgn0.mpr q2)⟩
               clear hc_34 hc_44 hc_52
               refine aw_iincZ dX1_isDiagonal_57 (by rfl) (by decide) ?_
               refine aw_goto (tgt := 12) dX1_isDiagonal_60 (by decide) ?_
               rw [show ((j : Int) + 1) = ((j + 1 : Nat) : Int) by omega]
               refine aw_pk [2, 1, 0] (by rfl) ?_
               exact IH (j + 1) (by omega) (fun k hk => (Nat.lt_or_eq_of_le (Nat.le_of_lt_succ hk)).elim (hpre k) (fun q => q ▸ hPij)))
          · first
            | exact absurd rfl hc_52
            | (have hN : ¬ (Z (G.ga (ρ i) j) ≠ 0 ↔ i = j) := fun q => by first | exact absurd (q.mp (fun q2 => hc_34 (sgn0.mpr q2))) (by omega) | exact absurd (sgn0.mp hc_34) (q.mpr (by omega))
               obtain rfl : b = 0 := by
                 rcases hb with ⟨_, q⟩ | ⟨q, _⟩
                 · exact absurd (q i j (by omega) (by omega)) hN
                 · exact q
               refine aw_iconstZ dX1_isDiagonal_55 ?_
               refine aw_iret dX1_isDiagonal_56 rfl (by rfl) ?_
               exact ⟨rfl, rfl, rfl, rfl, rfl⟩)
        · refine aw_iconstZ dX1_isDiagonal_47 ?_
          refine aw_goto (tgt := 52) dX1_isDiagonal_48 (by decide) ?_
          refine aw_icmp_eqZ (tgt := 57) dX1_isDiagonal_52 (by decide) (by omega) (by omega) (fun hc_52 => ?_) (fun hc_52 => ?_)
          · first
            | exact absurd hc_52 (by decide)
            | (have hPij : Z (G.ga (ρ i) j) ≠ 0 ↔ i = j := ⟨fun q => by first | omega | exact absurd (sgn0.mp hc_34) q, fun q => by first | exact absurd q (by omega) | exact fun q2 => hc_34 (sgn0.mpr q2)⟩
               clear hc_34 hc_44 hc_52
               refine aw_iincZ dX1_isDiagonal_57 (by rfl) (by decide) ?_
               refine aw_goto (tgt := 12) dX1_isDiagonal_60 (by decide) ?_
               rw [show ((j : Int) + 1) = ((j + 1 : Nat) : Int) by omega]
               refine aw_pk [2, 1, 0] (by rfl) ?_
               exact IH (j + 1) (by omega) (fun k hk => (Nat.lt_or_eq_of_le (Nat.le_of_lt_succ hk)).elim (hpre k) (fun q => q ▸ hPij)))
          · first
            | exact absurd rfl hc_52
            | (have hN : ¬ (Z (G.ga (ρ i) j) ≠ 0 ↔ i = j) := fun q => by first | exact absurd (q.mp (fun q2 => hc_34 (sgn0.mpr q2))) (by omega) | exact absurd (sgn0.mp hc_34) (q.mpr (by omega))
               obtain rfl : b = 0 := by
                 rcases hb with ⟨_, q⟩ | ⟨q, _⟩
                 · exact absurd (q i j (by omega) (by omega)) hN
                 · exact q
               refine aw_iconstZ dX1_isDiagonal_55 ?_
               refine aw_iret dX1_isDiagonal_56 rfl (by rfl) ?_
               exact ⟨rfl, rfl, rfl, rfl, rfl⟩)
theorem dg_out (g : GX) (d : Nat) {ws : List Nat} {SA : Nat → Prop} {V : AH} {sz : Nat} {Z : Nat → Int} {P L : Nat → Nat} {D : DT} {G : GG} {h w : Nat} {ld : Nat → Int} {ρ : Nat → Nat} {b : Int} (hw0 : WG g ws SA V sz Z P L) (hS : GSt ws SA D G) (hG : GD g V D.dk G h w ld ρ) (hhm : h ≤ G.mr) (hwm : w ≤ G.mc) (hb : (b = 1 ∧ (∀ i j, i < h → j < w → (Z (G.ga (ρ i) j) ≠ 0 ↔ i = j))) ∨ (b = 0 ∧ ¬ (∀ i j, i < h → j < w → (Z (G.ga (ρ i) j) ≠ 0 ↔ i = j)))) : ∀ (x i : Nat), i + x = h → (∀ k, k < i → ∀ j, j < w → (Z (G.ga (ρ k) j) ≠ 0 ↔ k = j)) → AW g mX1_isDiagonal d 2 [(1, .int (iZ i)), (0, .ref G.gd)] [] V sz (Ex (some (.int (iZ b))) V sz 0 0)
  | 0, i, hx, hpre => by
    obtain ⟨hgd, hra, hla, hrow, hRS, hinj⟩ := id hG
    obtain ⟨-, -, -, -, hcell, -, hmr, hmc⟩ := id hS
    refine aw_iload_n dX1_isDiagonal_2 (by rfl) ?_
    refine aw_aload_n dX1_isDiagonal_3 (by rfl) (Or.inr ⟨_, rfl⟩) ?_
    refine aw_get fX1_28 dX1_isDiagonal_4 (by assumption) (by rfl) ?_
    refine aw_icmp_geZ (tgt := 69) dX1_isDiagonal_7 (by decide) (by omega) (by omega) (fun hc_7 => ?_) (fun hc_7 => ?_)
    · obtain rfl : b = 1 := by
        rcases hb with ⟨q, _⟩ | ⟨_, q⟩
        · exact q
        · exact absurd (fun i j hi hj => hpre i (by omega) j hj) q
      refine aw_iconstZ dX1_isDiagonal_69 ?_
      refine aw_iret dX1_isDiagonal_70 rfl (by rfl) ?_
      exact ⟨rfl, rfl, rfl, rfl, rfl⟩
    · exact absurd hc_7 (by omega)
  | x + 1, i, hx, hpre => by
    obtain ⟨hgd, hra, hla, hrow, hRS, hinj⟩ := id hG
    obtain ⟨-, -, -, -, hcell, -, hmr, hmc⟩ := id hS
    have IH := dg_out g d hw0 hS hG hhm hwm hb x (i + 1) (by omega)
    have IN := dg_in g d hw0 hS hG hhm hwm hb (i := i) (by omega) (fun hq => by
      refine aw_iincZ dX1_isDiagonal_63 (by rfl) (by decide) ?_
      refine aw_goto (tgt := 2) dX1_isDiagonal_66 (by decide) ?_
      rw [show ((i : Int) + 1) = ((i + 1 : Nat) : Int) by omega]
      refine aw_pk [1, 0] (by rfl) ?_
      exact IH (fun k hk => (Nat.lt_or_eq_of_le (Nat.le_of_lt_succ hk)).elim (hpre k) (fun q => q ▸ hq))) w 0 (by omega) (fun k hk => absurd hk (by omega))
    clear IH
    refine aw_iload_n dX1_isDiagonal_2 (by rfl) ?_
    refine aw_aload_n dX1_isDiagonal_3 (by rfl) (Or.inr ⟨_, rfl⟩) ?_
    refine aw_get fX1_28 dX1_isDiagonal_4 (by assumption) (by rfl) ?_
    refine aw_icmp_geZ (tgt := 69) dX1_isDiagonal_7 (by decide) (by omega) (by omega) (fun hc_7 => ?_) (fun hc_7 => ?_)
    · exact absurd hc_7 (by omega)
    · refine aw_iconstZ dX1_isDiagonal_10 ?_
      refine aw_istore_n dX1_isDiagonal_11 (by decide) ?_
      refine aw_pk [2, 1, 0] (by rfl) ?_
      exact IN
theorem t_isDiagonal (g : GX) (d : Nat) {ws : List Nat} {SA : Nat → Prop} {V : AH} {sz : Nat} {Z : Nat → Int} {P L : Nat → Nat} {D : DT} {G : GG} {h w : Nat} {ld : Nat → Int} {ρ : Nat → Nat} {b : Int} (hw0 : WG g ws SA V sz Z P L) (hS : GSt ws SA D G) (hG : GD g V D.dk G h w ld ρ) (hhm : h ≤ G.mr) (hwm : w ≤ G.mc) (hb : (b = 1 ∧ (∀ i j, i < h → j < w → (Z (G.ga (ρ i) j) ≠ 0 ↔ i = j))) ∨ (b = 0 ∧ ¬ (∀ i j, i < h → j < w → (Z (G.ga (ρ i) j) ≠ 0 ↔ i = j)))) : AMet g mX1_isDiagonal d [.ref G.gd] V sz (Ex (some (.int (iZ b))) V sz 0 0) := by
  refine AMet.of rfl rfl (Nat.le_of_ble_eq_true rfl) ?_
  show AW g mX1_isDiagonal d 0 [(0, .ref G.gd)] [] V sz _
  refine aw_iconstZ dX1_isDiagonal_0 ?_
  refine aw_istore_n dX1_isDiagonal_1 (by decide) ?_
  refine aw_pk [1, 0] (by rfl) ?_
  exact dg_out g d hw0 hS hG hhm hwm hb h 0 (by omega) (fun k hk => absurd hk (by omega))

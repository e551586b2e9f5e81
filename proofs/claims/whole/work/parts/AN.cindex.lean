/-! ===== the class: index ===== -/
theorem GSp.keep {g : GX} {b : Nat} {V V' : AH} {Z Z' : Nat → Int} {G : GG} {M : Mat} {n w h : Nat} {ld : Nat → Int} {l ρ : Nat → Nat} (hg : GSp g b V Z G M n w h ld l ρ) (hG : GD g V' (G.gd + 1) G h w ld ρ) (hA : ∀ i j, i < h → j < w → AM G Z' ρ i j = AM G Z ρ i j) : GSp g b V' Z' G M n w h ld l ρ := ⟨hG, hg.2.1, hg.2.2.1.cong (fun i hi j hj => hA i j hi hj), hg.2.2.2.tr (SpEq.cong (fun i hi j hj => (hA i j hi hj).symm))⟩
theorem am_T {g : GX} {b : Nat} {V : AH} {h w i j : Nat} {ld : Nat → Int} {ρ : Nat → Nat} (hG : GD g V (b + 17 + 1) (GT b) h w ld ρ) (hi : i < 10) (hj : j < 5) : b + 41 ≤ (GT b).ga (ρ i) j ∧ (GT b).ga (ρ i) j < b + 159 := by
  have h1 := gl_cell (t0 := b + 17) (mr := 10) (mc := 5) (hG.2.2.2.2.1 i hi) hj
  have e : (GT b).ga (ρ i) j = (GL (b + 17) 10 5).ga (ρ i) j := rfl
  omega
theorem am_W {g : GX} {b : Nat} {V : AH} {h w i j : Nat} {ld : Nat → Int} {ρ : Nat → Nat} (hG : GD g V (b + 159 + 1) (GWd b) h w ld ρ) (hi : i < 11) (hj : j < 10) : b + 183 ≤ (GWd b).ga (ρ i) j ∧ (GWd b).ga (ρ i) j < b + 423 := by
  have h1 := gl_cell (t0 := b + 159) (mr := 11) (mc := 10) (hG.2.2.2.2.1 i hi) hj
  have e : (GWd b).ga (ρ i) j = (GL (b + 159) 11 10).ga (ρ i) j := rfl
  omega
theorem am_S {g : GX} {b : Nat} {V : AH} {h w i j : Nat} {ld : Nat → Int} {ρ : Nat → Nat} (hG : GD g V (b + 423 + 1) (GSc b) h w ld ρ) (hi : i < 6) (hj : j < 5) : b + 447 ≤ (GSc b).ga (ρ i) j ∧ (GSc b).ga (ρ i) j < b + 517 := by
  have h1 := gl_cell (t0 := b + 423) (mr := 6) (mc := 5) (hG.2.2.2.2.1 i hi) hj
  have e : (GSc b).ga (ρ i) j = (GL (b + 423) 6 5).ga (ρ i) j := rfl
  omega
theorem am_H {g : GX} {b : Nat} {V : AH} {h w i j : Nat} {ld : Nat → Int} {ρ : Nat → Nat} (hG : GD g V (b + 517 + 1) (GTh b) h w ld ρ) (hi : i < 6) (hj : j < 5) : b + 541 ≤ (GTh b).ga (ρ i) j ∧ (GTh b).ga (ρ i) j < b + 611 := by
  have h1 := gl_cell (t0 := b + 517) (mr := 6) (mc := 5) (hG.2.2.2.2.1 i hi) hj
  have e : (GTh b).ga (ρ i) j = (GL (b + 517) 6 5).ga (ρ i) j := rfl
  omega
theorem sm_pwt : ∀ w : Fin 6, ∀ n : Fin 6, (((KB w 1000) ^ (n : Nat)).natAbs : Int) < 2147483648 ^ 150 := by decide +kernel
/-- products of a STAIR's leads -/
theorem GSp.leads {g : GX} {b : Nat} {V : AH} {Z : Nat → Int} {G : GG} {M : Mat} {n w h : Nat} {ld : Nat → Int} {l ρ : Nat → Nat} (k : GSp g b V Z G M n w h ld l ρ) (hw : w < 6) (hM : ∀ i j, i < n → j < w → ab (M i j) ≤ 1000) : ∀ m, m ≤ h → Sm (Pd (fun k => AM G Z ρ k (l k)) m) := fun m hm => by
  have h1 := k.sm (by omega) hM
  have hle := k.2.2.1.1.le_w
  have hb := pd_bd (f := fun k => AM G Z ρ k (l k)) (K := KB w 1000) (KB.one (by omega)) (n := m) (fun i hi => ⟨k.2.2.1.2.1 i (by omega), by
    have h2 := h1.1 i (l i) (by omega) (k.2.2.1.1.1 i (by omega)).1
    have h3 := k.2.2.1.2.1 i (by omega)
    rw [ab_pos (by omega)] at h2
    exact h2⟩)
  have h4 := sm_pwt ⟨w, hw⟩ ⟨m, by omega⟩
  have h4 : ((KB w 1000 ^ m).natAbs : Int) < 2147483648 ^ 150 := h4
  unfold Sm
  generalize (2147483648 : Int) ^ 150 = B at *
  omega
abbrev mX5_index : MI := (yX5_index, cX5_index, 6, (some FieldType.int), noX)
theorem dX5_index_0 : decode cX5_index 0 = .ok (.aload_n 0, 1) := by decide +kernel
theorem dX5_index_1 : decode cX5_index 1 = .ok (.iload_n 1, 1) := by decide +kernel
theorem dX5_index_2 : decode cX5_index 2 = .ok (.invokevirtual 72, 3) := by decide +kernel
theorem dX5_index_5 : decode cX5_index 5 = .ok (.astore_n 3, 1) := by decide +kernel
theorem dX5_index_6 : decode cX5_index 6 = .ok (.aload_n 0, 1) := by decide +kernel
theorem dX5_index_7 : decode cX5_index 7 = .ok (.iload_n 2, 1) := by decide +kernel
theorem dX5_index_8 : decode cX5_index 8 = .ok (.invokevirtual 72, 3) := by decide +kernel
theorem dX5_index_11 : decode cX5_index 11 = .ok (.astore 4, 2) := by decide +kernel
theorem dX5_index_13 : decode cX5_index 13 = .ok (.aload_n 3, 1) := by decide +kernel
theorem dX5_index_14 : decode cX5_index 14 = .ok (.aload 4, 2) := by decide +kernel
theorem dX5_index_16 : decode cX5_index 16 = .ok (.invokestatic 137, 3) := by decide +kernel
theorem dX5_index_19 : decode cX5_index 19 = .ok (.ifCond .ne 5, 3) := by decide +kernel
theorem dX5_index_22 : decode cX5_index 22 = .ok (.iconst (-1), 1) := by decide +kernel
theorem dX5_index_23 : decode cX5_index 23 = .ok (.ireturn, 1) := by decide +kernel
theorem dX5_index_24 : decode cX5_index 24 = .ok (.aload_n 0, 1) := by decide +kernel
theorem dX5_index_25 : decode cX5_index 25 = .ok (.getfield 35, 3) := by decide +kernel
theorem dX5_index_28 : decode cX5_index 28 = .ok (.aload_n 3, 1) := by decide +kernel
theorem dX5_index_29 : decode cX5_index 29 = .ok (.invokevirtual 103, 3) := by decide +kernel
theorem dX5_index_32 : decode cX5_index 32 = .ok (.aload_n 0, 1) := by decide +kernel
theorem dX5_index_33 : decode cX5_index 33 = .ok (.getfield 38, 3) := by decide +kernel
theorem dX5_index_36 : decode cX5_index 36 = .ok (.aload 4, 2) := by decide +kernel
theorem dX5_index_38 : decode cX5_index 38 = .ok (.invokevirtual 103, 3) := by decide +kernel
theorem dX5_index_41 : decode cX5_index 41 = .ok (.aload_n 0, 1) := by decide +kernel
theorem dX5_index_42 : decode cX5_index 42 = .ok (.aload_n 0, 1) := by decide +kernel
theorem dX5_index_43 : decode cX5_index 43 = .ok (.getfield 38, 3) := by decide +kernel
theorem dX5_index_46 : decode cX5_index 46 = .ok (.aload_n 3, 1) := by decide +kernel
theorem dX5_index_47 : decode cX5_index 47 = .ok (.invokevirtual 205, 3) := by decide +kernel
theorem dX5_index_50 : decode cX5_index 50 = .ok (.ifCond .ne 5, 3) := by decide +kernel
theorem dX5_index_53 : decode cX5_index 53 = .ok (.iconst 0, 1) := by decide +kernel
theorem dX5_index_54 : decode cX5_index 54 = .ok (.ireturn, 1) := by decide +kernel
theorem dX5_index_55 : decode cX5_index 55 = .ok (.aload_n 0, 1) := by decide +kernel
theorem dX5_index_56 : decode cX5_index 56 = .ok (.getfield 35, 3) := by decide +kernel
theorem dX5_index_59 : decode cX5_index 59 = .ok (.getfield 111, 3) := by decide +kernel
theorem dX5_index_62 : decode cX5_index 62 = .ok (.aload_n 0, 1) := by decide +kernel
theorem dX5_index_63 : decode cX5_index 63 = .ok (.getfield 38, 3) := by decide +kernel
theorem dX5_index_66 : decode cX5_index 66 = .ok (.getfield 111, 3) := by decide +kernel
theorem dX5_index_69 : decode cX5_index 69 = .ok (.if_icmp .ge 6, 3) := by decide +kernel
theorem dX5_index_72 : decode cX5_index 72 = .ok (.bipush (-2), 2) := by decide +kernel
theorem dX5_index_74 : decode cX5_index 74 = .ok (.ireturn, 1) := by decide +kernel
theorem dX5_index_75 : decode cX5_index 75 = .ok (.aload_n 0, 1) := by decide +kernel
theorem dX5_index_76 : decode cX5_index 76 = .ok (.getfield 27, 3) := by decide +kernel
theorem dX5_index_79 : decode cX5_index 79 = .ok (.getfield 141, 3) := by decide +kernel
theorem dX5_index_82 : decode cX5_index 82 = .ok (.iconst 0, 1) := by decide +kernel
theorem dX5_index_83 : decode cX5_index 83 = .ok (.aaload, 1) := by decide +kernel
theorem dX5_index_84 : decode cX5_index 84 = .ok (.getfield 151, 3) := by decide +kernel
theorem dX5_index_87 : decode cX5_index 87 = .ok (.iconst 0, 1) := by decide +kernel
theorem dX5_index_88 : decode cX5_index 88 = .ok (.aaload, 1) := by decide +kernel
theorem dX5_index_89 : decode cX5_index 89 = .ok (.astore 5, 2) := by decide +kernel
theorem dX5_index_91 : decode cX5_index 91 = .ok (.aload_n 0, 1) := by decide +kernel
theorem dX5_index_92 : decode cX5_index 92 = .ok (.getfield 35, 3) := by decide +kernel
theorem dX5_index_95 : decode cX5_index 95 = .ok (.aload_n 0, 1) := by decide +kernel
theorem dX5_index_96 : decode cX5_index 96 = .ok (.getfield 53, 3) := by decide +kernel
theorem dX5_index_99 : decode cX5_index 99 = .ok (.getfield 151, 3) := by decide +kernel
theorem dX5_index_102 : decode cX5_index 102 = .ok (.iconst 0, 1) := by decide +kernel
theorem dX5_index_103 : decode cX5_index 103 = .ok (.aaload, 1) := by decide +kernel
theorem dX5_index_104 : decode cX5_index 104 = .ok (.invokevirtual 209, 3) := by decide +kernel
theorem dX5_index_107 : decode cX5_index 107 = .ok (.aload_n 0, 1) := by decide +kernel
theorem dX5_index_108 : decode cX5_index 108 = .ok (.getfield 38, 3) := by decide +kernel
theorem dX5_index_111 : decode cX5_index 111 = .ok (.aload_n 0, 1) := by decide +kernel
theorem dX5_index_112 : decode cX5_index 112 = .ok (.getfield 53, 3) := by decide +kernel
theorem dX5_index_115 : decode cX5_index 115 = .ok (.getfield 151, 3) := by decide +kernel
theorem dX5_index_118 : decode cX5_index 118 = .ok (.iconst 1, 1) := by decide +kernel
theorem dX5_index_119 : decode cX5_index 119 = .ok (.aaload, 1) := by decide +kernel
theorem dX5_index_120 : decode cX5_index 120 = .ok (.invokevirtual 209, 3) := by decide +kernel
theorem dX5_index_123 : decode cX5_index 123 = .ok (.aload_n 0, 1) := by decide +kernel
theorem dX5_index_124 : decode cX5_index 124 = .ok (.getfield 18, 3) := by decide +kernel
theorem dX5_index_127 : decode cX5_index 127 = .ok (.aload_n 0, 1) := by decide +kernel
theorem dX5_index_128 : decode cX5_index 128 = .ok (.getfield 53, 3) := by decide +kernel
theorem dX5_index_131 : decode cX5_index 131 = .ok (.getfield 151, 3) := by decide +kernel
theorem dX5_index_134 : decode cX5_index 134 = .ok (.iconst 0, 1) := by decide +kernel
theorem dX5_index_135 : decode cX5_index 135 = .ok (.aaload, 1) := by decide +kernel
theorem dX5_index_136 : decode cX5_index 136 = .ok (.aload_n 0, 1) := by decide +kernel
theorem dX5_index_137 : decode cX5_index 137 = .ok (.getfield 53, 3) := by decide +kernel
theorem dX5_index_140 : decode cX5_index 140 = .ok (.getfield 151, 3) := by decide +kernel
theorem dX5_index_143 : decode cX5_index 143 = .ok (.iconst 1, 1) := by decide +kernel
theorem dX5_index_144 : decode cX5_index 144 = .ok (.aaload, 1) := by decide +kernel
theorem dX5_index_145 : decode cX5_index 145 = .ok (.aload 5, 2) := by decide +kernel
theorem dX5_index_147 : decode cX5_index 147 = .ok (.invokevirtual 212, 3) := by decide +kernel
theorem dX5_index_150 : decode cX5_index 150 = .ok (.aload_n 0, 1) := by decide +kernel
theorem dX5_index_151 : decode cX5_index 151 = .ok (.iconst 1, 1) := by decide +kernel
theorem dX5_index_152 : decode cX5_index 152 = .ok (.iconst 1, 1) := by decide +kernel
theorem dX5_index_153 : decode cX5_index 153 = .ok (.invokevirtual 148, 3) := by decide +kernel
theorem dX5_index_156 : decode cX5_index 156 = .ok (.iconst 1, 1) := by decide +kernel
theorem dX5_index_157 : decode cX5_index 157 = .ok (.ireturn, 1) := by decide +kernel
set_option maxRecDepth 20000 in
theorem c_index {g : GX} {b : Nat} {X : Nat → Prop} {V : AH} {sz : Nat} {Z : Nat → Int} {S : TSt} {A : ASt} (d : Nat) {t u : Int} {P L : Nat → Nat} (hw0 : WG g (wsB b) (SAB b X) V sz Z P L) (h : CX g b X V Z S A) (ht : R32 t) (hu : R32 u) : AMet g mX5_index (d + 8) [.ref b, .int (iZ t), .int (iZ u)] V sz (CE g b X V sz L (AlkR S A t u (-1) (IdxR S A))) := by
  obtain ⟨⟨hb, hb1⟩, hTb, hOk, -⟩ := id h
  obtain ⟨v, hv⟩ := FindV.ex S b t
  obtain ⟨v2, hv2⟩ := FindV.ex S b u
  rcases id hv with ⟨x, hx, rfl, hrx, rfl⟩ | ⟨hno, rfl⟩
  · rcases id hv2 with ⟨y, hy, rfl, hry, rfl⟩ | ⟨hno2, rfl⟩
    · by_cases hcc : S.c x = S.c y
      · skip
        obtain ⟨q1, q3, -⟩ := hOk x hx
        obtain ⟨q2, q4, -⟩ := hOk y hy
        obtain ⟨h0, w0, ld0, ρ0, hG0⟩ := h.2.2.2.2.2.2.1
        have hgd0 : V (b + 159) = _ := hG0.1
        refine AMet.of rfl rfl (Nat.le_of_ble_eq_true rfl) ?_
        show AW g mX5_index (d + 8) 0 [(0, .ref b), (1, .int (iZ x)), (2, .int (iZ y))] [] V sz _
        refine aw_aload_n dX5_index_0 (by rfl) (Or.inr ⟨_, rfl⟩) ?_
        refine aw_iload_n dX5_index_1 (by rfl) ?_
        refine aw_callv vX5_72 dX5_index_2 hb (t_find (d + 6) h ht hv) (by rfl) (by rfl) (by omega) (Nat.le_of_ble_eq_true rfl) ?_
        rintro _ _ _ _ _ ⟨rfl, rfl, rfl, rfl, rfl⟩ -
        refine q0 ?_
        refine aw_astore_n dX5_index_5 (by decide) (Or.inr ⟨_, rfl⟩) ?_
        refine aw_aload_n dX5_index_6 (by rfl) (Or.inr ⟨_, rfl⟩) ?_
        refine aw_iload_n dX5_index_7 (by rfl) ?_
        refine aw_callv vX5_72 dX5_index_8 hb (t_find (d + 6) h hu hv2) (by rfl) (by rfl) (by omega) (Nat.le_of_ble_eq_true rfl) ?_
        rintro _ _ _ _ _ ⟨rfl, rfl, rfl, rfl, rfl⟩ -
        refine q0 ?_
        refine aw_astore dX5_index_11 (by decide) (Or.inr ⟨_, rfl⟩) ?_
        refine aw_aload_n dX5_index_13 (by rfl) (Or.inr ⟨_, rfl⟩) ?_
        refine aw_aload dX5_index_14 (by rfl) (Or.inr ⟨_, rfl⟩) ?_
        refine aw_calls sX5_137 dX5_index_16 (t_areAlike (d + 6 + 1) (q := 1) h hv hv2 (Or.inl ⟨rfl, x, y, hx, hy, rfl, rfl, hrx, hry, hcc⟩)) (by rfl) (by rfl) (by omega) (Nat.le_of_ble_eq_true rfl) ?_
        rintro _ _ _ _ _ ⟨rfl, rfl, rfl, rfl, rfl⟩ -
        refine q0 ?_
        refine aw_if_neZ (tgt := 24) dX5_index_19 (by decide) (by decide) (fun hc_19 => ?_) (fun hc_19 => ?_)
        · refine aw_aload_n dX5_index_24 (by rfl) (Or.inr ⟨_, rfl⟩) ?_
          refine aw_get fX5_35 dX5_index_25 hb (by rfl) ?_
          refine aw_aload_n dX5_index_28 (by rfl) (Or.inr ⟨_, rfl⟩) ?_
          refine aw_callv vX5_103 dX5_index_29 hgd0 (c_reachW d hw0 h hx) (by rfl) (by rfl) (by omega) (Nat.le_of_ble_eq_true rfl) ?_
          rintro _ V1 sz1 mc1 ms1 ⟨Z1, P1, L1, ⟨rfl, hcx1, ⟨h1, ld1, l1, ρ1, hg1⟩, -⟩, hs1⟩ -
          refine WE.stp hs1 ?_
          have hb1' := hcx1.1.1
          have hh1 : h1 ≤ S.c x := hg1.2.2.1.1.le_w
          obtain ⟨h0', w0', ld0', ρ0', hG0'⟩ := hcx1.2.2.2.2.2.2.2.1
          have hgs1 : V1 (b + 423) = _ := hG0'.1
          refine aw_aload_n dX5_index_32 (by rfl) (Or.inr ⟨_, rfl⟩) ?_
          refine aw_get fX5_38 dX5_index_33 hb1' (by rfl) ?_
          refine aw_aload dX5_index_36 (by rfl) (Or.inr ⟨_, rfl⟩) ?_
          refine aw_callv vX5_103 dX5_index_38 hgs1 (c_reachS d hs1.1 hcx1 hy) (by rfl) (by rfl) (by omega) (Nat.le_of_ble_eq_true rfl) ?_
          rintro _ V2 sz2 mc2 ms2 ⟨Z2, P2, L2, ⟨rfl, hcx2, ⟨h2, ld2, l2, ρ2, hg2⟩, hch2⟩, hs2⟩ -
          refine WE.stp hs2 ?_
          have hb2 := hcx2.1.1
          have hh2 : h2 ≤ S.c y := hg2.2.2.1.1.le_w
          have hg1b : GSp g b V2 Z2 (GWd b) (TM (S.N x)) (S.r x) (S.c x) h1 ld1 l1 ρ1 := hg1.keep (hg1.1.kept2 (fun a ha => hch2.1 a (sab_gW ha).1 (by have := (sab_gW (X := X) ha).2; omega))) (fun i j hi hj => hch2.2 _ (by have := am_W hg1.1 (i := i) (j := j) (by omega) (by omega); omega))
          by_cases hW : WinP S x y
          · refine aw_aload_n dX5_index_41 (by rfl) (Or.inr ⟨_, rfl⟩) ?_
            refine aw_aload_n dX5_index_42 (by rfl) (Or.inr ⟨_, rfl⟩) ?_
            refine aw_get fX5_38 dX5_index_43 hb2 (by rfl) ?_
            refine aw_aload_n dX5_index_46 (by rfl) (Or.inr ⟨_, rfl⟩) ?_
            refine aw_callv vX5_205 dX5_index_47 hb2 (t_reachesAllOf (d + 1) (q := 1) ⟨hx, hrx⟩ ⟨hy, hry⟩ hcc (Or.inl ⟨rfl, hW⟩) hs2.1 hcx2 hg2) (by rfl) (by rfl) (by omega) (Nat.le_of_ble_eq_true rfl) ?_
            rintro _ V3 sz3 mc3 ms3 ⟨Z3, P3, L3, ⟨rfl, hcx3, hg3, hkv3, hZ3⟩, hs3⟩ -
            refine WE.stp hs3 ?_
            refine aw_if_neZ (tgt := 55) dX5_index_50 (by decide) (by decide) (fun hc_50 => ?_) (fun hc_50 => ?_)
            · have hb3 := hcx3.1.1
              have hpS : (GSc b).pr = b + 441 := rfl
              have hpW : (GWd b).pr = b + 177 := rfl
              have hg1c : GSp g b V3 Z3 (GWd b) (TM (S.N x)) (S.r x) (S.c x) h1 ld1 l1 ρ1 := hg1b.keep (hg1b.1.kept2 (fun a ha => hkv3 a (sab_gW ha).1)) (fun i j hi hj => by have := am_W hg1b.1 (i := i) (j := j) (by omega) (by omega); exact hZ3 _ (by omega) (by omega))
              have hgW3 : V3 (b + 159) = some (grO (b + 159 + 21) (b + 159 + 20) (b + 159 + 1) (b + 159 + 16) (b + 159 + 18) h1 (S.c x)) := hg1c.1.1
              have hgS3 : V3 (b + 423) = some (grO (b + 423 + 21) (b + 423 + 20) (b + 423 + 1) (b + 423 + 16) (b + 423 + 18) h2 (S.c y)) := hg3.1.1
              refine aw_aload_n dX5_index_55 (by rfl) (Or.inr ⟨_, rfl⟩) ?_
              refine aw_get fX5_35 dX5_index_56 hb3 (by rfl) ?_
              refine aw_get fX5_111 dX5_index_59 hgW3 (by rfl) ?_
              refine aw_aload_n dX5_index_62 (by rfl) (Or.inr ⟨_, rfl⟩) ?_
              refine aw_get fX5_38 dX5_index_63 hb3 (by rfl) ?_
              refine aw_get fX5_111 dX5_index_66 hgS3 (by rfl) ?_
              refine aw_icmp_geZ (tgt := 75) dX5_index_69 (by decide) (by omega) (by omega) (fun hc_69 => ?_) (fun hc_69 => ?_)
              · have hc2 : ¬ h1 < h2 := by omega
                obtain ⟨ldT, ρT, hGD, -⟩ := id hcx3.2.2.2.2.1
                obtain ⟨tgd, tra, -, trow, tRS, tinj⟩ := id hGD
                have tgd : V3 (b + 17) = some (grO (b + 17 + 21) (b + 17 + 20) (b + 17 + 1) (b + 17 + 16) (b + 17 + 18) A.h A.w) := tgd
                have tra : V3 (b + 17 + 21) = some (aQ g 4 10 (fun i => some (ρT i))) := tra
                obtain ⟨tr1, tr2, -⟩ := trow _ (tRS 0 (show 0 < 10 by omega))
                have tr2 : V3 ((GT b).ka (ρT 0)) = some (aQ g 5 5 (fun j => some ((GT b).ga (ρT 0) j))) := tr2
                have fa1 := hcx3.2.2.2.2.2.2.2.2.2.2.1.1
                have fa2 : V3 (b + 634) = some (aQ g 5 5 (fun j => some (b + 635 + 2 * j))) := hcx3.2.2.2.2.2.2.2.2.2.2.1.2.1
                have hUT : US (wsB b) (DB b) ((GT b).ga (ρT 0) 0) := ((gst_T b X).2.2.2.2.1 _ (tRS 0 (show 0 < 10 by omega)) 0 (show 0 < 5 by omega)).1
                refine aw_aload_n dX5_index_75 (by rfl) (Or.inr ⟨_, rfl⟩) ?_
                refine aw_get fX5_27 dX5_index_76 hb3 (by rfl) ?_
                refine aw_get fX5_141 dX5_index_79 tgd (by rfl) ?_
                refine aw_iconstZ dX5_index_82 ?_
                refine aw_aaldZ (t0 := 4) (0) (by rfl) dX5_index_83 tra (by omega) (by omega) (by omega) ?_
                refine aw_get fX5_151 dX5_index_84 tr1 (by rfl) ?_
                refine aw_iconstZ dX5_index_87 ?_
                refine aw_aaldZ (t0 := 5) (0) (by rfl) dX5_index_88 tr2 (by omega) (by omega) (by omega) ?_
                refine aw_astore dX5_index_89 (by decide) (Or.inr ⟨_, rfl⟩) ?_
                refine aw_aload_n dX5_index_91 (by rfl) (Or.inr ⟨_, rfl⟩) ?_
                refine aw_get fX5_35 dX5_index_92 hb3 (by rfl) ?_
                refine aw_aload_n dX5_index_95 (by rfl) (Or.inr ⟨_, rfl⟩) ?_
                refine aw_get fX5_53 dX5_index_96 hb3 (by rfl) ?_
                refine aw_get fX5_151 dX5_index_99 fa1 (by rfl) ?_
                refine aw_iconstZ dX5_index_102 ?_
                refine aw_aaldZ (t0 := 5) (0) (by rfl) dX5_index_103 fa2 (by omega) (by omega) (by omega) ?_
                show AW _ _ _ _ _ (.ref (b + 635) :: _) _ _ _
                refine aw_callv vX5_209 dX5_index_104 hgW3 (w_multiplyLeads g (d + 3) (D := DG (b + 159)) (G := GWd b) (res := b + 635) (gso_W b X) hg1c.1 (show h1 ≤ 11 by omega) (show S.c x ≤ 10 by omega) hg1c.2.1 (fun i hi => (hg1c.2.2.1.1.1 i hi).1) ⟨(us_fa (b := b) (j := 0) (by omega)).1, by omega, fun ro hr j hj => by have := gl_cell (t0 := b + 159) (mr := 11) (mc := 10) hr hj; have e : (GWd b).ga ro j = (GL (b + 159) 11 10).ga ro j := rfl; omega⟩ (hg1c.leads (by omega) (hOk.tb hx)) (fun k hk => (hg1c.sm (by omega) (hOk.tb hx)).2 k _ hk (hg1c.2.2.1.1.1 k hk).1) hs3.1 (fun _ _ => rfl)) (by rfl) (by rfl) (by omega) (Nat.le_of_ble_eq_true rfl) ?_
                rintro _ V4 sz4 mc4 ms4 ⟨Z4, P4, L4, ⟨rfl, hr4, ho4⟩, hs4⟩ -
                refine WE.stp (hs4.weak (fun a z => z.elim)) ?_
                have hkv4 : ∀ a, SAB b X a → V4 a = V3 a := fun a ha => hs4.2.2.1 a ha (fun z => z)
                have hcx4 := hcx3.zs hkv4 (fun q hq => ho4 q (by omega) (by omega))
                have hb4 := hcx4.1.1
                have hg4 : GSp g b V4 Z4 (GSc b) (TM (S.N y)) (S.r y) (S.c y) h2 ld2 l2 ρ2 := hg3.keep (hg3.1.kept2 (fun a ha => hkv4 a (sab_gS ha).1)) (fun i j hi hj => by have := am_S hg3.1 (i := i) (j := j) (by omega) (by omega); exact ho4 _ (by omega) (by omega))
                have hgS4 : V4 (b + 423) = some (grO (b + 423 + 21) (b + 423 + 20) (b + 423 + 1) (b + 423 + 16) (b + 423 + 18) h2 (S.c y)) := hg4.1.1
                have fr1 := hcx4.2.2.2.2.2.2.2.2.2.2.1.1
                have fr2 : V4 (b + 634) = some (aQ g 5 5 (fun j => some (b + 635 + 2 * j))) := hcx4.2.2.2.2.2.2.2.2.2.2.1.2.1
                refine aw_aload_n dX5_index_107 (by rfl) (Or.inr ⟨_, rfl⟩) ?_
                refine aw_get fX5_38 dX5_index_108 hb4 (by rfl) ?_
                refine aw_aload_n dX5_index_111 (by rfl) (Or.inr ⟨_, rfl⟩) ?_
                refine aw_get fX5_53 dX5_index_112 hb4 (by rfl) ?_
                refine aw_get fX5_151 dX5_index_115 fr1 (by rfl) ?_
                refine aw_iconstZ dX5_index_118 ?_
                refine aw_aaldZ (t0 := 5) (1) (by rfl) dX5_index_119 fr2 (by omega) (by omega) (by omega) ?_
                show AW _ _ _ _ _ (.ref (b + 637) :: _) _ _ _
                refine aw_callv vX5_209 dX5_index_120 hgS4 (w_multiplyLeads g (d + 3) (D := DG (b + 423)) (G := GSc b) (res := b + 637) (gso_S b X) hg4.1 (show h2 ≤ 6 by omega) (show S.c y ≤ 5 by omega) hg4.2.1 (fun i hi => (hg4.2.2.1.1.1 i hi).1) ⟨(us_fa (b := b) (j := 1) (by omega)).1, by omega, fun ro hr j hj => by have := gl_cell (t0 := b + 423) (mr := 6) (mc := 5) hr hj; have e : (GSc b).ga ro j = (GL (b + 423) 6 5).ga ro j := rfl; omega⟩ (hg4.leads (by omega) (hOk.tb hy)) (fun k hk => (hg4.sm (by omega) (hOk.tb hy)).2 k _ hk (hg4.2.2.1.1.1 k hk).1) hs4.1 (fun _ _ => rfl)) (by rfl) (by rfl) (by omega) (Nat.le_of_ble_eq_true rfl) ?_
                rintro _ V5 sz5 mc5 ms5 ⟨Z5, P5, L5, ⟨rfl, hr5, ho5⟩, hs5⟩ -
                refine WE.stp (hs5.weak (fun a z => z.elim)) ?_
                have hkv5 : ∀ a, SAB b X a → V5 a = V4 a := fun a ha => hs5.2.2.1 a ha (fun z => z)
                have hcx5 := hcx4.zs hkv5 (fun q hq => ho5 q (by omega) (by omega))
                have hb5 := hcx5.1.1
                have fs1 := hcx5.2.2.2.2.2.2.2.2.2.2.1.1
                have fs2 : V5 (b + 634) = some (aQ g 5 5 (fun j => some (b + 635 + 2 * j))) := hcx5.2.2.2.2.2.2.2.2.2.2.1.2.1
                obtain ⟨ldT', ρT', hGD', -⟩ := id hcx5.2.2.2.2.1
                have hA5 := hcx5.2.2.2.2.2.1
                have hGT5 : GD g V5 (b + 17 + 1) (GT b) A.h A.w ldT ρT := hGD.kept2 (fun a ha => (hkv5 a (sab_gT ha).1).trans (hkv4 a (sab_gT ha).1))
                have hz5 : Z5 (b + 635) = Pd (fun k => AM (GWd b) Z3 ρ1 k (l1 k)) h1 := (ho5 _ (by omega) (by omega)).trans hr4
                have hD5 := hcx5.2.2.2.1.1
                have hdk5 := hD5.2.1
                have hct5 := am_T hGT5 (i := 0) (j := 0) (by omega) (by omega)
                refine aw_aload_n dX5_index_123 (by rfl) (Or.inr ⟨_, rfl⟩) ?_
                refine aw_get fX5_18 dX5_index_124 hb5 (by rfl) ?_
                refine aw_aload_n dX5_index_127 (by rfl) (Or.inr ⟨_, rfl⟩) ?_
                refine aw_get fX5_53 dX5_index_128 hb5 (by rfl) ?_
                refine aw_get fX5_151 dX5_index_131 fs1 (by rfl) ?_
                refine aw_iconstZ dX5_index_134 ?_
                refine aw_aaldZ (t0 := 5) (0) (by rfl) dX5_index_135 fs2 (by omega) (by omega) (by omega) ?_
                refine aw_aload_n dX5_index_136 (by rfl) (Or.inr ⟨_, rfl⟩) ?_
                refine aw_get fX5_53 dX5_index_137 hb5 (by rfl) ?_
                refine aw_get fX5_151 dX5_index_140 fs1 (by rfl) ?_
                refine aw_iconstZ dX5_index_143 ?_
                refine aw_aaldZ (t0 := 5) (1) (by rfl) dX5_index_144 fs2 (by omega) (by omega) (by omega) ?_
                refine aw_aload dX5_index_145 (by rfl) (Or.inr ⟨_, rfl⟩) ?_
                show AW _ _ _ _ _ (_ :: .ref (b + 637) :: .ref (b + 635) :: _) _ _ _
                refine aw_callv vX5_212 dX5_index_147 hdk5 (w_div (d + 3) (a := b + 635) (b := b + 637) (qq := (GT b).ga (ρT 0) 0) hs5.1 hD5 (us_fa (b := b) (j := 0) (by omega)) (us_fa (b := b) (j := 1) (by omega)) hUT (by rw [hz5]; exact hg1c.leads (by omega) (hOk.tb hx) h1 (Nat.le_refl _))) (by rfl) (by rfl) (by omega) (Nat.le_of_ble_eq_true rfl) ?_
                rintro _ V6 sz6 mc6 ms6 ⟨rfl, P6, L6, hs6⟩ -
                refine WE.stp (WSE.of hs6) ?_
                have hkv6 : ∀ a, SAB b X a → V6 a = V5 a := fun a ha => hs6.2.2.1 a ha
                have hb6 := (hkv6 b (Or.inl rfl)).trans hb5
                have hGT6 : GD g V6 (b + 17 + 1) (GT b) A.h A.w ldT ρT := hGT5.kept2 (fun a ha => hkv6 a (sab_gT ha).1)
                refine aw_aload_n dX5_index_150 (by rfl) (Or.inr ⟨_, rfl⟩) ?_
                refine aw_iconstZ dX5_index_151 ?_
                refine aw_iconstZ dX5_index_152 ?_
                show AW _ _ _ _ _ (.int (iZ ((1 : Nat) : Int)) :: .int (iZ ((1 : Nat) : Int)) :: _) _ _ _
                refine aw_callv vX5_148 dX5_index_153 hb6 (t_closeAnswer g (d + 6) (r := 1) (w := 1) hb6 hGT6 (by omega)) (by rfl) (by rfl) (by omega) (Nat.le_of_ble_eq_true rfl) ?_
                rintro _ _ _ _ _ ⟨rfl, rfl, rfl, rfl, rfl⟩ -
                refine WE.stp (cl_wse hs6.1) ?_
                refine aw_iconstZ dX5_index_156 ?_
                refine aw_iret dX5_index_157 rfl (by rfl) ?_
                obtain ⟨hcx, hAI⟩ := hcx5.ans (V := V6) (Z := upF Z5 ((GT b).ga (ρT 0) 0) (Z5 (b + 635) / Z5 (b + 637))) (r := 1) (w := 1) (M := fun _ _ => Pd (fun k => AM (GWd b) Z3 ρ1 k (l1 k)) h1 / Pd (fun k => AM (GSc b) Z4 ρ2 k (l2 k)) h2) hGT5 hA5 hkv6 (fun q hq => upF_ne _ _ (by omega)) (by omega) (fun i j hi hj => by rw [show i = 0 by omega, show j = 0 by omega, upF_self, hz5, hr5])
                exact WE.ret (cl_wse hs6.1).1 ⟨S, _, hcx, rfl, Or.inl ⟨x, y, hx, hy, rfl, rfl, hrx, hry, hcc, Or.inr ⟨hW, h1, h2, l1, l2, _, _, ⟨hg1c.2.2.1, hg1c.2.2.2⟩, ⟨hg4.2.2.1, hg4.2.2.2⟩, Or.inr ⟨hc2, rfl, hAI⟩⟩⟩⟩
              · refine aw_bipushZ dX5_index_72 (by decide) ?_
                refine aw_iret dX5_index_74 rfl (by rfl) ?_
                exact WE.ret hs3.1 ⟨S, A, hcx3, rfl, Or.inl ⟨x, y, hx, hy, rfl, rfl, hrx, hry, hcc, Or.inr ⟨hW, h1, h2, l1, l2, _, _, ⟨hg1c.2.2.1, hg1c.2.2.2⟩, ⟨hg3.2.2.1, hg3.2.2.2⟩, Or.inl ⟨by omega, rfl, rfl⟩⟩⟩⟩
            · exact absurd hc_50 (by decide)
          · refine aw_aload_n dX5_index_41 (by rfl) (Or.inr ⟨_, rfl⟩) ?_
            refine aw_aload_n dX5_index_42 (by rfl) (Or.inr ⟨_, rfl⟩) ?_
            refine aw_get fX5_38 dX5_index_43 hb2 (by rfl) ?_
            refine aw_aload_n dX5_index_46 (by rfl) (Or.inr ⟨_, rfl⟩) ?_
            refine aw_callv vX5_205 dX5_index_47 hb2 (t_reachesAllOf (d + 1) (q := 0) ⟨hx, hrx⟩ ⟨hy, hry⟩ hcc (Or.inr ⟨rfl, hW⟩) hs2.1 hcx2 hg2) (by rfl) (by rfl) (by omega) (Nat.le_of_ble_eq_true rfl) ?_
            rintro _ V3 sz3 mc3 ms3 ⟨Z3, P3, L3, ⟨rfl, hcx3, hg3, hkv3, hZ3⟩, hs3⟩ -
            refine WE.stp hs3 ?_
            refine aw_if_neZ (tgt := 55) dX5_index_50 (by decide) (by decide) (fun hc_50 => ?_) (fun hc_50 => ?_)
            · exact absurd rfl hc_50
            · refine aw_iconstZ dX5_index_53 ?_
              refine aw_iret dX5_index_54 rfl (by rfl) ?_
              exact WE.ret hs3.1 ⟨S, A, hcx3, rfl, Or.inl ⟨x, y, hx, hy, rfl, rfl, hrx, hry, hcc, Or.inl ⟨rfl, hW, rfl⟩⟩⟩
        · exact absurd hc_19 (by decide)
      · have hal : ¬ (∃ n m : Nat, n < 12 ∧ m < 12 ∧ ((x : Nat) : Int) = (n : Int) ∧ ((y : Nat) : Int) = (m : Int) ∧ 0 < S.r n ∧ 0 < S.r m ∧ S.c n = S.c m) := fun ⟨n, k, _, _, e1, e2, _, _, e3⟩ => by
          obtain rfl : x = n := by omega
          obtain rfl : y = k := by omega
          exact hcc e3
        refine AMet.of rfl rfl (Nat.le_of_ble_eq_true rfl) ?_
        show AW g mX5_index (d + 8) 0 [(0, .ref b), (1, .int (iZ x)), (2, .int (iZ y))] [] V sz _
        refine aw_aload_n dX5_index_0 (by rfl) (Or.inr ⟨_, rfl⟩) ?_
        refine aw_iload_n dX5_index_1 (by rfl) ?_
        refine aw_callv vX5_72 dX5_index_2 hb (t_find (d + 6) h ht hv) (by rfl) (by rfl) (by omega) (Nat.le_of_ble_eq_true rfl) ?_
        rintro _ _ _ _ _ ⟨rfl, rfl, rfl, rfl, rfl⟩ -
        refine q0 ?_
        refine aw_astore_n dX5_index_5 (by decide) (Or.inr ⟨_, rfl⟩) ?_
        refine aw_aload_n dX5_index_6 (by rfl) (Or.inr ⟨_, rfl⟩) ?_
        refine aw_iload_n dX5_index_7 (by rfl) ?_
        refine aw_callv vX5_72 dX5_index_8 hb (t_find (d + 6) h hu hv2) (by rfl) (by rfl) (by omega) (Nat.le_of_ble_eq_true rfl) ?_
        rintro _ _ _ _ _ ⟨rfl, rfl, rfl, rfl, rfl⟩ -
        refine q0 ?_
        refine aw_astore dX5_index_11 (by decide) (Or.inr ⟨_, rfl⟩) ?_
        refine aw_aload_n dX5_index_13 (by rfl) (Or.inr ⟨_, rfl⟩) ?_
        refine aw_aload dX5_index_14 (by rfl) (Or.inr ⟨_, rfl⟩) ?_
        refine aw_calls sX5_137 dX5_index_16 (t_areAlike (d + 6 + 1) (q := 0) h hv hv2 (Or.inr ⟨rfl, hal⟩)) (by rfl) (by rfl) (by omega) (Nat.le_of_ble_eq_true rfl) ?_
        rintro _ _ _ _ _ ⟨rfl, rfl, rfl, rfl, rfl⟩ -
        refine q0 ?_
        refine aw_if_neZ (tgt := 24) dX5_index_19 (by decide) (by decide) (fun hc_19 => ?_) (fun hc_19 => ?_)
        · exact absurd rfl hc_19
        · refine aw_iconstZ dX5_index_22 ?_
          refine aw_iret dX5_index_23 rfl (by rfl) ?_
          exact WE.ret hw0 ⟨S, A, h, rfl, Or.inr ⟨hal, rfl, rfl⟩⟩
    · have hal : ¬ (∃ n m : Nat, n < 12 ∧ m < 12 ∧ ((x : Nat) : Int) = (n : Int) ∧ u = (m : Int) ∧ 0 < S.r n ∧ 0 < S.r m ∧ S.c n = S.c m) := fun ⟨n, k, _, hk, e1, e2, _, hk2, e3⟩ => by
        have := hno2 k hk e2
        omega
      refine AMet.of rfl rfl (Nat.le_of_ble_eq_true rfl) ?_
      show AW g mX5_index (d + 8) 0 [(0, .ref b), (1, .int (iZ x)), (2, .int (iZ u))] [] V sz _
      refine aw_aload_n dX5_index_0 (by rfl) (Or.inr ⟨_, rfl⟩) ?_
      refine aw_iload_n dX5_index_1 (by rfl) ?_
      refine aw_callv vX5_72 dX5_index_2 hb (t_find (d + 6) h ht hv) (by rfl) (by rfl) (by omega) (Nat.le_of_ble_eq_true rfl) ?_
      rintro _ _ _ _ _ ⟨rfl, rfl, rfl, rfl, rfl⟩ -
      refine q0 ?_
      refine aw_astore_n dX5_index_5 (by decide) (Or.inr ⟨_, rfl⟩) ?_
      refine aw_aload_n dX5_index_6 (by rfl) (Or.inr ⟨_, rfl⟩) ?_
      refine aw_iload_n dX5_index_7 (by rfl) ?_
      refine aw_callv vX5_72 dX5_index_8 hb (t_find (d + 6) h hu hv2) (by rfl) (by rfl) (by omega) (Nat.le_of_ble_eq_true rfl) ?_
      rintro _ _ _ _ _ ⟨rfl, rfl, rfl, rfl, rfl⟩ -
      refine q0 ?_
      refine aw_astore dX5_index_11 (by decide) (Or.inl rfl) ?_
      refine aw_aload_n dX5_index_13 (by rfl) (Or.inr ⟨_, rfl⟩) ?_
      refine aw_aload dX5_index_14 (by rfl) (Or.inl rfl) ?_
      refine aw_calls sX5_137 dX5_index_16 (t_areAlike (d + 6 + 1) (q := 0) h hv hv2 (Or.inr ⟨rfl, hal⟩)) (by rfl) (by rfl) (by omega) (Nat.le_of_ble_eq_true rfl) ?_
      rintro _ _ _ _ _ ⟨rfl, rfl, rfl, rfl, rfl⟩ -
      refine q0 ?_
      refine aw_if_neZ (tgt := 24) dX5_index_19 (by decide) (by decide) (fun hc_19 => ?_) (fun hc_19 => ?_)
      · exact absurd rfl hc_19
      · refine aw_iconstZ dX5_index_22 ?_
        refine aw_iret dX5_index_23 rfl (by rfl) ?_
        exact WE.ret hw0 ⟨S, A, h, rfl, Or.inr ⟨hal, rfl, rfl⟩⟩
  · have hal : ¬ (∃ n m : Nat, n < 12 ∧ m < 12 ∧ t = (n : Int) ∧ u = (m : Int) ∧ 0 < S.r n ∧ 0 < S.r m ∧ S.c n = S.c m) := fun ⟨n, k, hk, _, e1, e2, hk2, _, e3⟩ => by
      have := hno n hk e1
      omega
    rcases id hv2 with ⟨y, hy, rfl, hry, rfl⟩ | ⟨hno2, rfl⟩
    · skip
      refine AMet.of rfl rfl (Nat.le_of_ble_eq_true rfl) ?_
      show AW g mX5_index (d + 8) 0 [(0, .ref b), (1, .int (iZ t)), (2, .int (iZ y))] [] V sz _
      refine aw_aload_n dX5_index_0 (by rfl) (Or.inr ⟨_, rfl⟩) ?_
      refine aw_iload_n dX5_index_1 (by rfl) ?_
      refine aw_callv vX5_72 dX5_index_2 hb (t_find (d + 6) h ht hv) (by rfl) (by rfl) (by omega) (Nat.le_of_ble_eq_true rfl) ?_
      rintro _ _ _ _ _ ⟨rfl, rfl, rfl, rfl, rfl⟩ -
      refine q0 ?_
      refine aw_astore_n dX5_index_5 (by decide) (Or.inl rfl) ?_
      refine aw_aload_n dX5_index_6 (by rfl) (Or.inr ⟨_, rfl⟩) ?_
      refine aw_iload_n dX5_index_7 (by rfl) ?_
      refine aw_callv vX5_72 dX5_index_8 hb (t_find (d + 6) h hu hv2) (by rfl) (by rfl) (by omega) (Nat.le_of_ble_eq_true rfl) ?_
      rintro _ _ _ _ _ ⟨rfl, rfl, rfl, rfl, rfl⟩ -
      refine q0 ?_
      refine aw_astore dX5_index_11 (by decide) (Or.inr ⟨_, rfl⟩) ?_
      refine aw_aload_n dX5_index_13 (by rfl) (Or.inl rfl) ?_
      refine aw_aload dX5_index_14 (by rfl) (Or.inr ⟨_, rfl⟩) ?_
      refine aw_calls sX5_137 dX5_index_16 (t_areAlike (d + 6 + 1) (q := 0) h hv hv2 (Or.inr ⟨rfl, hal⟩)) (by rfl) (by rfl) (by omega) (Nat.le_of_ble_eq_true rfl) ?_
      rintro _ _ _ _ _ ⟨rfl, rfl, rfl, rfl, rfl⟩ -
      refine q0 ?_
      refine aw_if_neZ (tgt := 24) dX5_index_19 (by decide) (by decide) (fun hc_19 => ?_) (fun hc_19 => ?_)
      · exact absurd rfl hc_19
      · refine aw_iconstZ dX5_index_22 ?_
        refine aw_iret dX5_index_23 rfl (by rfl) ?_
        exact WE.ret hw0 ⟨S, A, h, rfl, Or.inr ⟨hal, rfl, rfl⟩⟩
    · skip
      refine AMet.of rfl rfl (Nat.le_of_ble_eq_true rfl) ?_
      show AW g mX5_index (d + 8) 0 [(0, .ref b), (1, .int (iZ t)), (2, .int (iZ u))] [] V sz _
      refine aw_aload_n dX5_index_0 (by rfl) (Or.inr ⟨_, rfl⟩) ?_
      refine aw_iload_n dX5_index_1 (by rfl) ?_
      refine aw_callv vX5_72 dX5_index_2 hb (t_find (d + 6) h ht hv) (by rfl) (by rfl) (by omega) (Nat.le_of_ble_eq_true rfl) ?_
      rintro _ _ _ _ _ ⟨rfl, rfl, rfl, rfl, rfl⟩ -
      refine q0 ?_
      refine aw_astore_n dX5_index_5 (by decide) (Or.inl rfl) ?_
      refine aw_aload_n dX5_index_6 (by rfl) (Or.inr ⟨_, rfl⟩) ?_
      refine aw_iload_n dX5_index_7 (by rfl) ?_
      refine aw_callv vX5_72 dX5_index_8 hb (t_find (d + 6) h hu hv2) (by rfl) (by rfl) (by omega) (Nat.le_of_ble_eq_true rfl) ?_
      rintro _ _ _ _ _ ⟨rfl, rfl, rfl, rfl, rfl⟩ -
      refine q0 ?_
      refine aw_astore dX5_index_11 (by decide) (Or.inl rfl) ?_
      refine aw_aload_n dX5_index_13 (by rfl) (Or.inl rfl) ?_
      refine aw_aload dX5_index_14 (by rfl) (Or.inl rfl) ?_
      refine aw_calls sX5_137 dX5_index_16 (t_areAlike (d + 6 + 1) (q := 0) h hv hv2 (Or.inr ⟨rfl, hal⟩)) (by rfl) (by rfl) (by omega) (Nat.le_of_ble_eq_true rfl) ?_
      rintro _ _ _ _ _ ⟨rfl, rfl, rfl, rfl, rfl⟩ -
      refine q0 ?_
      refine aw_if_neZ (tgt := 24) dX5_index_19 (by decide) (by decide) (fun hc_19 => ?_) (fun hc_19 => ?_)
      · exact absurd rfl hc_19
      · refine aw_iconstZ dX5_index_22 ?_
        refine aw_iret dX5_index_23 rfl (by rfl) ?_
        exact WE.ret hw0 ⟨S, A, h, rfl, Or.inr ⟨hal, rfl, rfl⟩⟩

/-! ===== Grid.tidy ===== -/
abbrev mX1_tidy : MI := (yX1_tidy, cX1_tidy, 3, none, noX)
theorem dX1_tidy_0 : decode cX1_tidy 0 = .ok (.aload_n 0, 1) := by decide +kernel
theorem dX1_tidy_1 : decode cX1_tidy 1 = .ok (.getfield 28, 3) := by decide +kernel
theorem dX1_tidy_4 : decode cX1_tidy 4 = .ok (.iconst 1, 1) := by decide +kernel
theorem dX1_tidy_5 : decode cX1_tidy 5 = .ok (.isub, 1) := by decide +kernel
theorem dX1_tidy_6 : decode cX1_tidy 6 = .ok (.istore_n 1, 1) := by decide +kernel
theorem dX1_tidy_7 : decode cX1_tidy 7 = .ok (.iload_n 1, 1) := by decide +kernel
theorem dX1_tidy_8 : decode cX1_tidy 8 = .ok (.ifCond .lt 138, 3) := by decide +kernel
theorem dX1_tidy_11 : decode cX1_tidy 11 = .ok (.aload_n 0, 1) := by decide +kernel
theorem dX1_tidy_12 : decode cX1_tidy 12 = .ok (.getfield 41, 3) := by decide +kernel
theorem dX1_tidy_15 : decode cX1_tidy 15 = .ok (.iload_n 1, 1) := by decide +kernel
theorem dX1_tidy_16 : decode cX1_tidy 16 = .ok (.aaload, 1) := by decide +kernel
theorem dX1_tidy_17 : decode cX1_tidy 17 = .ok (.getfield 65, 3) := by decide +kernel
theorem dX1_tidy_20 : decode cX1_tidy 20 = .ok (.aload_n 0, 1) := by decide +kernel
theorem dX1_tidy_21 : decode cX1_tidy 21 = .ok (.getfield 35, 3) := by decide +kernel
theorem dX1_tidy_24 : decode cX1_tidy 24 = .ok (.iload_n 1, 1) := by decide +kernel
theorem dX1_tidy_25 : decode cX1_tidy 25 = .ok (.iaload, 1) := by decide +kernel
theorem dX1_tidy_26 : decode cX1_tidy 26 = .ok (.aaload, 1) := by decide +kernel
theorem dX1_tidy_27 : decode cX1_tidy 27 = .ok (.getfield 85, 3) := by decide +kernel
theorem dX1_tidy_30 : decode cX1_tidy 30 = .ok (.ifCond .ge 16, 3) := by decide +kernel
theorem dX1_tidy_33 : decode cX1_tidy 33 = .ok (.aload_n 0, 1) := by decide +kernel
theorem dX1_tidy_34 : decode cX1_tidy 34 = .ok (.getfield 41, 3) := by decide +kernel
theorem dX1_tidy_37 : decode cX1_tidy 37 = .ok (.iload_n 1, 1) := by decide +kernel
theorem dX1_tidy_38 : decode cX1_tidy 38 = .ok (.aaload, 1) := by decide +kernel
theorem dX1_tidy_39 : decode cX1_tidy 39 = .ok (.aload_n 0, 1) := by decide +kernel
theorem dX1_tidy_40 : decode cX1_tidy 40 = .ok (.getfield 32, 3) := by decide +kernel
theorem dX1_tidy_43 : decode cX1_tidy 43 = .ok (.invokevirtual 96, 3) := by decide +kernel
theorem dX1_tidy_46 : decode cX1_tidy 46 = .ok (.iload_n 1, 1) := by decide +kernel
theorem dX1_tidy_47 : decode cX1_tidy 47 = .ok (.iconst 1, 1) := by decide +kernel
theorem dX1_tidy_48 : decode cX1_tidy 48 = .ok (.iadd, 1) := by decide +kernel
theorem dX1_tidy_49 : decode cX1_tidy 49 = .ok (.istore_n 2, 1) := by decide +kernel
theorem dX1_tidy_50 : decode cX1_tidy 50 = .ok (.iload_n 2, 1) := by decide +kernel
theorem dX1_tidy_51 : decode cX1_tidy 51 = .ok (.aload_n 0, 1) := by decide +kernel
theorem dX1_tidy_52 : decode cX1_tidy 52 = .ok (.getfield 28, 3) := by decide +kernel
theorem dX1_tidy_55 : decode cX1_tidy 55 = .ok (.if_icmp .ge 85, 3) := by decide +kernel
theorem dX1_tidy_58 : decode cX1_tidy 58 = .ok (.aload_n 0, 1) := by decide +kernel
theorem dX1_tidy_59 : decode cX1_tidy 59 = .ok (.getfield 12, 3) := by decide +kernel
theorem dX1_tidy_62 : decode cX1_tidy 62 = .ok (.aload_n 0, 1) := by decide +kernel
theorem dX1_tidy_63 : decode cX1_tidy 63 = .ok (.getfield 41, 3) := by decide +kernel
theorem dX1_tidy_66 : decode cX1_tidy 66 = .ok (.iload_n 1, 1) := by decide +kernel
theorem dX1_tidy_67 : decode cX1_tidy 67 = .ok (.aaload, 1) := by decide +kernel
theorem dX1_tidy_68 : decode cX1_tidy 68 = .ok (.getfield 65, 3) := by decide +kernel
theorem dX1_tidy_71 : decode cX1_tidy 71 = .ok (.aload_n 0, 1) := by decide +kernel
theorem dX1_tidy_72 : decode cX1_tidy 72 = .ok (.getfield 35, 3) := by decide +kernel
theorem dX1_tidy_75 : decode cX1_tidy 75 = .ok (.iload_n 2, 1) := by decide +kernel
theorem dX1_tidy_76 : decode cX1_tidy 76 = .ok (.iaload, 1) := by decide +kernel
theorem dX1_tidy_77 : decode cX1_tidy 77 = .ok (.aaload, 1) := by decide +kernel
theorem dX1_tidy_78 : decode cX1_tidy 78 = .ok (.aload_n 0, 1) := by decide +kernel
theorem dX1_tidy_79 : decode cX1_tidy 79 = .ok (.getfield 41, 3) := by decide +kernel
theorem dX1_tidy_82 : decode cX1_tidy 82 = .ok (.iload_n 2, 1) := by decide +kernel
theorem dX1_tidy_83 : decode cX1_tidy 83 = .ok (.aaload, 1) := by decide +kernel
theorem dX1_tidy_84 : decode cX1_tidy 84 = .ok (.getfield 65, 3) := by decide +kernel
theorem dX1_tidy_87 : decode cX1_tidy 87 = .ok (.aload_n 0, 1) := by decide +kernel
theorem dX1_tidy_88 : decode cX1_tidy 88 = .ok (.getfield 35, 3) := by decide +kernel
theorem dX1_tidy_91 : decode cX1_tidy 91 = .ok (.iload_n 2, 1) := by decide +kernel
theorem dX1_tidy_92 : decode cX1_tidy 92 = .ok (.iaload, 1) := by decide +kernel
theorem dX1_tidy_93 : decode cX1_tidy 93 = .ok (.aaload, 1) := by decide +kernel
theorem dX1_tidy_94 : decode cX1_tidy 94 = .ok (.aload_n 0, 1) := by decide +kernel
theorem dX1_tidy_95 : decode cX1_tidy 95 = .ok (.getfield 21, 3) := by decide +kernel
theorem dX1_tidy_98 : decode cX1_tidy 98 = .ok (.invokevirtual 88, 3) := by decide +kernel
theorem dX1_tidy_101 : decode cX1_tidy 101 = .ok (.aload_n 0, 1) := by decide +kernel
theorem dX1_tidy_102 : decode cX1_tidy 102 = .ok (.getfield 41, 3) := by decide +kernel
theorem dX1_tidy_105 : decode cX1_tidy 105 = .ok (.iload_n 1, 1) := by decide +kernel
theorem dX1_tidy_106 : decode cX1_tidy 106 = .ok (.aaload, 1) := by decide +kernel
theorem dX1_tidy_107 : decode cX1_tidy 107 = .ok (.aload_n 0, 1) := by decide +kernel
theorem dX1_tidy_108 : decode cX1_tidy 108 = .ok (.getfield 21, 3) := by decide +kernel
theorem dX1_tidy_111 : decode cX1_tidy 111 = .ok (.aload_n 0, 1) := by decide +kernel
theorem dX1_tidy_112 : decode cX1_tidy 112 = .ok (.getfield 41, 3) := by decide +kernel
theorem dX1_tidy_115 : decode cX1_tidy 115 = .ok (.iload_n 2, 1) := by decide +kernel
theorem dX1_tidy_116 : decode cX1_tidy 116 = .ok (.aaload, 1) := by decide +kernel
theorem dX1_tidy_117 : decode cX1_tidy 117 = .ok (.aload_n 0, 1) := by decide +kernel
theorem dX1_tidy_118 : decode cX1_tidy 118 = .ok (.getfield 35, 3) := by decide +kernel
theorem dX1_tidy_121 : decode cX1_tidy 121 = .ok (.iload_n 2, 1) := by decide +kernel
theorem dX1_tidy_122 : decode cX1_tidy 122 = .ok (.iaload, 1) := by decide +kernel
theorem dX1_tidy_123 : decode cX1_tidy 123 = .ok (.aload_n 0, 1) := by decide +kernel
theorem dX1_tidy_124 : decode cX1_tidy 124 = .ok (.getfield 32, 3) := by decide +kernel
theorem dX1_tidy_127 : decode cX1_tidy 127 = .ok (.aload_n 0, 1) := by decide +kernel
theorem dX1_tidy_128 : decode cX1_tidy 128 = .ok (.getfield 25, 3) := by decide +kernel
theorem dX1_tidy_131 : decode cX1_tidy 131 = .ok (.invokevirtual 92, 3) := by decide +kernel
theorem dX1_tidy_134 : decode cX1_tidy 134 = .ok (.iinc 2 1, 3) := by decide +kernel
theorem dX1_tidy_137 : decode cX1_tidy 137 = .ok (.goto (-87), 3) := by decide +kernel
theorem dX1_tidy_140 : decode cX1_tidy 140 = .ok (.iinc 1 (-1), 3) := by decide +kernel
theorem dX1_tidy_143 : decode cX1_tidy 143 = .ok (.goto (-136), 3) := by decide +kernel
theorem dX1_tidy_146 : decode cX1_tidy 146 = .ok (.return_, 1) := by decide +kernel
theorem le_mul1 {Y K : Int} (hY : 0 ≤ Y) (hK : 1 ≤ K) : K ≤ (Y + 1) * K := by
  have : 1 * K ≤ (Y + 1) * K := Int.mul_le_mul_of_nonneg_right (by omega) (by omega)
  omega
/-- a tidy row's bound -/
theorem TIn.bdk {A0 A : Mat} {h w : Nat} {l : Nat → Nat} {Y K : Int} {i k0 k : Nat} (t : TIn A0 A h w l Y i k0) (hL : LB A0 h w K) (hi : i < k) (hk : k < h) {j : Nat} (hj : j < w) : ab (A k j) ≤ K := by
  obtain ⟨a1, a2, a3, a4, a5, a6, a7, a8⟩ := t
  have h1 := hL A h l a1 a2 (A k) (Span.row hk) 1 (by omega) (fun m hm => ?_) j hj
  · rw [Int.one_mul] at h1; exact h1
  · rw [Int.one_mul]
    rcases Nat.lt_trichotomy k m with h2 | h2 | h2
    · have h3 := a5 k m hi h2 hm
      unfold ab; omega
    · rw [h2]; exact Int.le_refl _
    · rw [(a1.1 k hk).2.2 (l m) (a1.2 m k h2 hk)]
      exact ab0 _
set_option maxRecDepth 20000 in
theorem td_in (g : GX) (d : Nat) {ws : List Nat} {SA : Nat → Prop} {D : DT} {G : GG} {h w : Nat} {l : Nat → Nat} {ld : Nat → Int} {ρ : Nat → Nat} {Z0 : Nat → Int} {A0 : Mat} {Y K : Int} (hS : GSt ws SA D G) (hhm : h ≤ G.mr) (hwm : w ≤ G.mc) (hld : ∀ i, i < h → ld i = (l i : Int)) (hL : LB A0 h w K) (hY0 : 0 ≤ Y) (hK1 : 1 ≤ K) (hY : ∀ i m, i < h → m < h → ab (A0 i (l m)) ≤ Y * ab (A0 m (l m))) (hT2 : Sm (2 * ((Y + 1) * 2 ^ h * K))) {i : Nat} (hi : i < h)
    (hKK : ∀ {V : AH} {sz : Nat} {Z : Nat → Int} {P L : Nat → Nat}, WG g ws SA V sz Z P L → DKV ws SA V Z D → GD g V D.dk G h w ld ρ → TOu A0 (AM G Z ρ) h w l i → NF G Z0 Z → AW g mX1_tidy (d + 5) 140 [(1, .int (iZ i)), (0, .ref G.gd)] [] V sz (WE g ws SA E0 V sz L (fun r V' Z' => none = r ∧ GD g V' D.dk G h w ld ρ ∧ Stair (AM G Z' ρ) h w l ∧ SpEq A0 h (AM G Z' ρ) h w ∧ NF G Z0 Z'))) : ∀ (x k : Nat), k + x = h → i < k → ∀ {V : AH} {sz : Nat} {Z : Nat → Int} {P L : Nat → Nat}, WG g ws SA V sz Z P L → DKV ws SA V Z D → GD g V D.dk G h w ld ρ → TIn A0 (AM G Z ρ) h w l Y i k → NF G Z0 Z → AW g mX1_tidy (d + 5) 50 [(2, .int (iZ k)), (1, .int (iZ i)), (0, .ref G.gd)] [] V sz (WE g ws SA E0 V sz L (fun r V' Z' => none = r ∧ GD g V' D.dk G h w ld ρ ∧ Stair (AM G Z' ρ) h w l ∧ SpEq A0 h (AM G Z' ρ) h w ∧ NF G Z0 Z'))
  | 0, k, hx, hik, V, sz, Z, P, L, hw0, hD, hG, hTI, hNF => by
    obtain ⟨-, -, ⟨hfa, hpr, hfpr⟩, hSr, hcell, hginj, hmr, hmc⟩ := id hS
    have hcin : ∀ ro, G.RS ro → ∀ i j, i < G.mc → j < G.mc → i ≠ j → G.ga ro i ≠ G.ga ro j := fun ro hr i j hi hj hne q => hne (hginj ro ro i j hr hr hi hj q).2
    obtain ⟨hgd, hra, hla, hrow, hRS, hinj⟩ := id hG
    obtain rfl : h = k := by omega
    refine aw_iload_n dX1_tidy_50 (by rfl) ?_
    refine aw_aload_n dX1_tidy_51 (by rfl) (Or.inr ⟨_, rfl⟩) ?_
    refine aw_get fX1_28 dX1_tidy_52 (by assumption) (by rfl) ?_
    refine aw_icmp_geZ (tgt := 140) dX1_tidy_55 (by decide) (by omega) (by omega) (fun hc_55 => ?_) (fun hc_55 => ?_)
    · refine aw_pk [1, 0] (by rfl) ?_
      exact hKK hw0 hD hG (TIn.out hTI) hNF
    · exact absurd hc_55 (by omega)
  | x + 1, k, hx, hik, V, sz, Z, P, L, hw0, hD, hG, hTI, hNF => by
    have IH := td_in g d hS hhm hwm hld hL hY0 hK1 hY hT2 hi hKK x
    clear hKK
    obtain ⟨-, -, ⟨hfa, hpr, hfpr⟩, hSr, hcell, hginj, hmr, hmc⟩ := id hS
    have hcin : ∀ ro, G.RS ro → ∀ i j, i < G.mc → j < G.mc → i ≠ j → G.ga ro i ≠ G.ga ro j := fun ro hr i j hi hj hne q => hne (hginj ro ro i j hr hr hi hj q).2
    obtain ⟨hgd, hra, hla, hrow, hRS, hinj⟩ := id hG
    refine aw_iload_n dX1_tidy_50 (by rfl) ?_
    refine aw_aload_n dX1_tidy_51 (by rfl) (Or.inr ⟨_, rfl⟩) ?_
    refine aw_get fX1_28 dX1_tidy_52 (by assumption) (by rfl) ?_
    refine aw_icmp_geZ (tgt := 140) dX1_tidy_55 (by decide) (by omega) (by omega) (fun hc_55 => ?_) (fun hc_55 => ?_)
    · exact absurd hc_55 (by omega)
    · have hRi := hRS i (by omega)
      have hRk := hRS k (by omega)
      obtain ⟨hri, hci, -⟩ := hrow _ hRi
      obtain ⟨hrk, hck, -⟩ := hrow _ hRk
      have hlk := (hTI.1.1 k (by omega)).1
      have hyb := yb_le (t := k - (i + 1)) (n := h) hY0 hK1 (by omega)
      have hyb1 := yb_le (t := k + 1 - (i + 1)) (n := h) hY0 hK1 (by omega)
      have hbT : ∀ j, j < w → ab (Z (G.ga (ρ i) j)) ≤ (Y + 1) * 2 ^ h * K := fun j hj => Int.le_trans (hTI.bd hL (by omega) hj) hyb.1
      have hqT : ab (Z (G.ga (ρ i) (l k)) / Z (G.ga (ρ k) (l k))) ≤ (Y + 1) * 2 ^ h * K := Int.le_trans (hTI.quo hik (by omega)) hyb.2
      have hNT : ∀ j, j < w → ab (Z (G.ga (ρ i) j) - Z (G.ga (ρ i) (l k)) / Z (G.ga (ρ k) (l k)) * Z (G.ga (ρ k) j)) ≤ (Y + 1) * 2 ^ h * K := fun j hj => by
        have hst := hTI.step (A' := fun a j => if a = i then Z (G.ga (ρ i) j) - Z (G.ga (ρ i) (l k)) / Z (G.ga (ρ k) (l k)) * Z (G.ga (ρ k) j) else Z (G.ga (ρ a) j)) hik (by omega) (fun a _ hne j _ => if_neg hne) (fun j _ => if_pos rfl)
        have := hst.bd hL (by omega) hj
        simp only [if_true] at this
        exact Int.le_trans this hyb1.1
      have hkT : ∀ j, j < w → ab (Z (G.ga (ρ k) j)) ≤ (Y + 1) * 2 ^ h * K := fun j hj => Int.le_trans (hTI.bdk hL (by omega) (by omega) hj) (by have := (yb_le (t := 0) (n := h) hY0 hK1 (by omega)).1; rw [Int.pow_zero, Int.mul_one] at this; exact Int.le_trans (le_mul1 (by omega) hK1) this)
      generalize (Y + 1) * 2 ^ h * K = T at hT2 hbT hqT hNT hkT
      have hsq : Sm (Z (G.ga (ρ i) (l k)) / Z (G.ga (ρ k) (l k))) := Sm.of hT2 (by have := ab0 (Z (G.ga (ρ i) (l k)) / Z (G.ga (ρ k) (l k))); omega)
      have hsm : ∀ j, j < w → Sm (Z (G.ga (ρ i) j)) ∧ Sm (Z (G.ga (ρ k) j)) ∧ Sm (Z (G.ga (ρ i) (l k)) / Z (G.ga (ρ k) (l k)) * Z (G.ga (ρ k) j)) := fun j hj => by
        have h1 := hbT j hj
        have h2 := hNT j hj
        have h3 := hkT j hj
        refine ⟨Sm.of hT2 ?_, Sm.of hT2 ?_, Sm.of hT2 ?_⟩
        · have := ab0 (Z (G.ga (ρ i) j)); omega
        · have := ab0 (Z (G.ga (ρ k) j)); omega
        · have h3 := ab_sub (Z (G.ga (ρ i) j)) (Z (G.ga (ρ i) j) - Z (G.ga (ρ i) (l k)) / Z (G.ga (ρ k) (l k)) * Z (G.ga (ρ k) j))
          rw [show Z (G.ga (ρ i) j) - (Z (G.ga (ρ i) j) - Z (G.ga (ρ i) (l k)) / Z (G.ga (ρ k) (l k)) * Z (G.ga (ρ k) j)) = Z (G.ga (ρ i) (l k)) / Z (G.ga (ρ k) (l k)) * Z (G.ga (ρ k) j) by omega] at h3
          omega
      refine aw_aload_n dX1_tidy_58 (by rfl) (Or.inr ⟨_, rfl⟩) ?_
      refine aw_get fX1_12 dX1_tidy_59 (by assumption) (by rfl) ?_
      refine aw_aload_n dX1_tidy_62 (by rfl) (Or.inr ⟨_, rfl⟩) ?_
      refine aw_get fX1_41 dX1_tidy_63 (by assumption) (by rfl) ?_
      refine aw_iload_n dX1_tidy_66 (by rfl) ?_
      refine aw_aaldZ (t0 := 4) (i) (by rfl) dX1_tidy_67 (by assumption) (by omega) (by omega) (by omega) ?_
      refine aw_get fX1_65 dX1_tidy_68 (by assumption) (by rfl) ?_
      refine aw_aload_n dX1_tidy_71 (by rfl) (Or.inr ⟨_, rfl⟩) ?_
      refine aw_get fX1_35 dX1_tidy_72 (by assumption) (by rfl) ?_
      refine aw_iload_n dX1_tidy_75 (by rfl) ?_
      refine aw_ialdZ (k) dX1_tidy_76 (by assumption) (by omega) (by omega) (by omega) ?_
      refine aw_aaldZ (t0 := 5) (l k) (by rfl) dX1_tidy_77 (by assumption) (hld k (by omega)) (by omega) (by omega) ?_
      refine aw_aload_n dX1_tidy_78 (by rfl) (Or.inr ⟨_, rfl⟩) ?_
      refine aw_get fX1_41 dX1_tidy_79 (by assumption) (by rfl) ?_
      refine aw_iload_n dX1_tidy_82 (by rfl) ?_
      refine aw_aaldZ (t0 := 4) (k) (by rfl) dX1_tidy_83 (by assumption) (by omega) (by omega) (by omega) ?_
      refine aw_get fX1_65 dX1_tidy_84 (by assumption) (by rfl) ?_
      refine aw_aload_n dX1_tidy_87 (by rfl) (Or.inr ⟨_, rfl⟩) ?_
      refine aw_get fX1_35 dX1_tidy_88 (by assumption) (by rfl) ?_
      refine aw_iload_n dX1_tidy_91 (by rfl) ?_
      refine aw_ialdZ (k) dX1_tidy_92 (by assumption) (by omega) (by omega) (by omega) ?_
      refine aw_aaldZ (t0 := 5) (l k) (by rfl) dX1_tidy_93 (by assumption) (hld k (by omega)) (by omega) (by omega) ?_
      refine aw_aload_n dX1_tidy_94 (by rfl) (Or.inr ⟨_, rfl⟩) ?_
      refine aw_get fX1_21 dX1_tidy_95 (by assumption) (by rfl) ?_
      refine aw_callv vX1_88 dX1_tidy_98 hD.2.1 (w_div d hw0 hD (hcell _ hRi (l k) (by omega)).1 (hcell _ hRk (l k) (by omega)).1 hfa (Sm.of hT2 (by have := hbT (l k) (by omega); have := ab0 (Z (G.ga (ρ i) (l k))); omega))) (by rfl) (by rfl) (by omega) (Nat.le_of_ble_eq_true rfl) ?_
      rintro _ V1 sz1 mc1 ms1 ⟨rfl, P1, L1, hs1⟩ -
      have hG1 := hG.kept hS hs1.2.2.1
      obtain ⟨hgd1, hra1, hla1, hrow1, -, -⟩ := id hG1
      have hri1 := (hrow1 _ hRi)
      have hrk1 := (hrow1 _ hRk)
      refine WE.stp (WSE.of hs1) ?_
      have eN : ∀ j, j < G.mc → upF Z G.fa (Z (G.ga (ρ i) (l k)) / Z (G.ga (ρ k) (l k))) (G.ga (ρ i) j) = Z (G.ga (ρ i) j) := fun j hj => upF_ne _ _ (hcell _ hRi j hj).2.1
      have eK : ∀ j, j < G.mc → upF Z G.fa (Z (G.ga (ρ i) (l k)) / Z (G.ga (ρ k) (l k))) (G.ga (ρ k) j) = Z (G.ga (ρ k) j) := fun j hj => upF_ne _ _ (hcell _ hRk j hj).2.1
      refine aw_aload_n dX1_tidy_101 (by rfl) (Or.inr ⟨_, rfl⟩) ?_
      refine aw_get fX1_41 dX1_tidy_102 (by assumption) (by rfl) ?_
      refine aw_iload_n dX1_tidy_105 (by rfl) ?_
      refine aw_aaldZ (t0 := 4) (i) (by rfl) dX1_tidy_106 (by assumption) (by omega) (by omega) (by omega) ?_
      refine aw_aload_n dX1_tidy_107 (by rfl) (Or.inr ⟨_, rfl⟩) ?_
      refine aw_get fX1_21 dX1_tidy_108 (by assumption) (by rfl) ?_
      refine aw_aload_n dX1_tidy_111 (by rfl) (Or.inr ⟨_, rfl⟩) ?_
      refine aw_get fX1_41 dX1_tidy_112 (by assumption) (by rfl) ?_
      refine aw_iload_n dX1_tidy_115 (by rfl) ?_
      refine aw_aaldZ (t0 := 4) (k) (by rfl) dX1_tidy_116 (by assumption) (by omega) (by omega) (by omega) ?_
      refine aw_aload_n dX1_tidy_117 (by rfl) (Or.inr ⟨_, rfl⟩) ?_
      refine aw_get fX1_35 dX1_tidy_118 (by assumption) (by rfl) ?_
      refine aw_iload_n dX1_tidy_121 (by rfl) ?_
      refine aw_ialdZ (k) dX1_tidy_122 (by assumption) (by omega) (by omega) (by omega) ?_
      refine aw_topi (hld k (by omega)) ?_
      refine aw_aload_n dX1_tidy_123 (by rfl) (Or.inr ⟨_, rfl⟩) ?_
      refine aw_get fX1_32 dX1_tidy_124 (by assumption) (by rfl) ?_
      refine aw_aload_n dX1_tidy_127 (by rfl) (Or.inr ⟨_, rfl⟩) ?_
      refine aw_get fX1_25 dX1_tidy_128 (by assumption) (by rfl) ?_
      refine aw_callv vX1_92 dX1_tidy_131 hri1.1 (w_lessMultiple (w := w) (fr := l k) d hs1.1 hri1 hrk1 (fun j hj => (hcell _ hRi j hj).1.1) (fun j hj => (hcell _ hRk j hj).1.1) (hcin _ hRi) (fun a b ha hb q => hinj i k (by omega) (by omega) (by omega) (hginj _ _ _ _ hRi hRk ha hb q).1) (fun j hj => (hcell _ hRi j hj).2.1.symm) hfpr (fun j hj => (hcell _ hRi j hj).2.2.symm) (fun j hj => (hcell _ hRk j hj).2.2.symm) hfa.1 hpr.1 (hSr _ hRi).1 (hSr _ hRi).2.1 (hSr _ hRk).1 (hSr _ hRk).2.1 (by omega) (by rw [upF_self]; exact hsq) (fun j h1 h2 => by rw [eN j (by omega), eK j (by omega), upF_self]; exact hsm j h2)) (by rfl) (by rfl) (by omega) (Nat.le_of_ble_eq_true rfl) ?_
      rintro _ V2 sz2 mc2 ms2 ⟨Z2, P2, L2, ⟨rfl, hru⟩, hs2⟩ -
      refine WE.stp hs2 ?_
      have hkv2 : ∀ a, SA a → V2 a = V1 a := fun a ha => hs2.2.2.1 a ha (fun q => q)
      have hG2 := hG1.kept hS hkv2
      have hrw : ∀ j, j < w → Z2 (G.ga (ρ i) j) = Z (G.ga (ρ i) j) - Z (G.ga (ρ i) (l k)) / Z (G.ga (ρ k) (l k)) * Z (G.ga (ρ k) j) := fun j hj => by
        rw [hru.all hwm (hcin _ hRi) (fun i hi => (hcell _ hRi i hi).2.2) (fun j hj => by rw [eK j (by omega)]; exact (hTI.1.1 k (by omega)).2.2 j hj) j hj, eN j (by omega), eK j (by omega), upF_self]
      have hot : ∀ a, a < G.mr → a ≠ i → ∀ j, j < G.mc → Z2 (G.ga (ρ a) j) = Z (G.ga (ρ a) j) := fun a ha hai j hj => by
        rw [hru.2 _ (hcell _ (hRS a ha) j hj).2.2 (fun b _ hb q => hinj a i ha (by omega) hai (hginj _ _ _ _ (hRS a ha) hRi hj (by omega) q).1), upF_ne _ _ (hcell _ (hRS a ha) j hj).2.1]
      have hNF2 : NF G Z Z2 := fun x h1 h2 h3 => by
        rw [hru.2 x h2 (fun b _ hb => h3 _ hRi b (by omega)), upF_ne _ _ h1]
      have hD2 := hS.dkv hD ((hkv2 _ hD.1).trans (hs1.2.2.1 _ hD.1)) hNF2
      have hTI2 := hTI.step (A' := AM G Z2 ρ) hik (by omega) (fun a ha hne j hj => hot a (by omega) hne j (by omega)) hrw
      refine aw_iincZ dX1_tidy_134 (by rfl) (by decide) ?_
      refine aw_goto (tgt := 50) dX1_tidy_137 (by decide) ?_
      rw [show ((k : Int) + 1) = ((k + 1 : Nat) : Int) by omega]
      refine aw_pk [2, 1, 0] (by rfl) ?_
      exact IH (k + 1) (by omega) (by omega) hs2.1 hD2 hG2 hTI2 (hNF.tr hNF2)
set_option maxRecDepth 20000 in
theorem td_out (g : GX) (d : Nat) {ws : List Nat} {SA : Nat → Prop} {D : DT} {G : GG} {h w : Nat} {l : Nat → Nat} {ld : Nat → Int} {ρ : Nat → Nat} {Z0 : Nat → Int} {A0 : Mat} {Y K : Int} (hS : GSt ws SA D G) (hhm : h ≤ G.mr) (hwm : w ≤ G.mc) (hld : ∀ i, i < h → ld i = (l i : Int)) (hL : LB A0 h w K) (hY0 : 0 ≤ Y) (hK1 : 1 ≤ K) (hY : ∀ i m, i < h → m < h → ab (A0 i (l m)) ≤ Y * ab (A0 m (l m))) (hT2 : Sm (2 * ((Y + 1) * 2 ^ h * K))) : ∀ (n : Nat), n ≤ h → ∀ {V : AH} {sz : Nat} {Z : Nat → Int} {P L : Nat → Nat}, WG g ws SA V sz Z P L → DKV ws SA V Z D → GD g V D.dk G h w ld ρ → TOu A0 (AM G Z ρ) h w l n → NF G Z0 Z → AW g mX1_tidy (d + 5) 7 [(1, .int (iZ ((n : Int) - 1))), (0, .ref G.gd)] [] V sz (WE g ws SA E0 V sz L (fun r V' Z' => none = r ∧ GD g V' D.dk G h w ld ρ ∧ Stair (AM G Z' ρ) h w l ∧ SpEq A0 h (AM G Z' ρ) h w ∧ NF G Z0 Z'))
  | 0, hn, V, sz, Z, P, L, hw0, hD, hG, hTO, hNF => by
    obtain ⟨-, -, ⟨hfa, hpr, hfpr⟩, hSr, hcell, hginj, hmr, hmc⟩ := id hS
    have hcin : ∀ ro, G.RS ro → ∀ i j, i < G.mc → j < G.mc → i ≠ j → G.ga ro i ≠ G.ga ro j := fun ro hr i j hi hj hne q => hne (hginj ro ro i j hr hr hi hj q).2
    obtain ⟨hgd, hra, hla, hrow, hRS, hinj⟩ := id hG
    refine aw_iload_n dX1_tidy_7 (by rfl) ?_
    refine aw_if_ltZ (tgt := 146) dX1_tidy_8 (by decide) (by omega) (fun hc_8 => ?_) (fun hc_8 => ?_)
    · refine aw_ret dX1_tidy_146 rfl ?_
      exact WE.ret hw0 ⟨rfl, hG, hTO.stair, hTO.2.1, hNF⟩
    · exact absurd hc_8 (by omega)
  | n + 1, hn, V, sz, Z, P, L, hw0, hD, hG, hTO, hNF => by
    have IH := @td_out g d ws SA D G h w l ld ρ Z0 A0 Y K hS hhm hwm hld hL hY0 hK1 hY hT2 n (by omega)
    have TD := fun k hk hik => @td_in g d ws SA D G h w l ld ρ Z0 A0 Y K hS hhm hwm hld hL hY0 hK1 hY hT2 n (by omega) (fun {V sz Z P L} b1 b2 b3 b4 b5 => by
      refine aw_iincZ dX1_tidy_140 (by rfl) (by decide) ?_
      refine aw_goto (tgt := 7) dX1_tidy_143 (by decide) ?_
      rw [show ((n : Int) + -1) = ((n : Nat) : Int) - 1 by omega]
      refine aw_pk [1, 0] (by rfl) ?_
      exact IH b1 b2 b3 b4 b5) (h - k) k hk hik
    clear IH
    obtain ⟨-, -, ⟨hfa, hpr, hfpr⟩, hSr, hcell, hginj, hmr, hmc⟩ := id hS
    have hcin : ∀ ro, G.RS ro → ∀ i j, i < G.mc → j < G.mc → i ≠ j → G.ga ro i ≠ G.ga ro j := fun ro hr i j hi hj hne q => hne (hginj ro ro i j hr hr hi hj q).2
    obtain ⟨hgd, hra, hla, hrow, hRS, hinj⟩ := id hG
    rw [show ((n + 1 : Nat) : Int) - 1 = (n : Int) by omega]
    refine aw_iload_n dX1_tidy_7 (by rfl) ?_
    refine aw_if_ltZ (tgt := 146) dX1_tidy_8 (by decide) (by omega) (fun hc_8 => ?_) (fun hc_8 => ?_)
    · exact absurd hc_8 (by omega)
    · have hRi := hRS n (by omega)
      have hri := hrow _ hRi
      obtain ⟨hri0, hci0, -⟩ := hrow _ hRi
      have hln := (hTO.1.1 n (by omega)).1
      obtain ⟨nn, FN, hWn⟩ := hw0.raw (hcell _ hRi (l n) (by omega)).1.1
      have hWno := hWn.1
      refine aw_aload_n dX1_tidy_11 (by rfl) (Or.inr ⟨_, rfl⟩) ?_
      refine aw_get fX1_41 dX1_tidy_12 (by assumption) (by rfl) ?_
      refine aw_iload_n dX1_tidy_15 (by rfl) ?_
      refine aw_aaldZ (t0 := 4) (n) (by rfl) dX1_tidy_16 (by assumption) (by omega) (by omega) (by omega) ?_
      refine aw_get fX1_65 dX1_tidy_17 (by assumption) (by rfl) ?_
      refine aw_aload_n dX1_tidy_20 (by rfl) (Or.inr ⟨_, rfl⟩) ?_
      refine aw_get fX1_35 dX1_tidy_21 (by assumption) (by rfl) ?_
      refine aw_iload_n dX1_tidy_24 (by rfl) ?_
      refine aw_ialdZ (n) dX1_tidy_25 (by assumption) (by omega) (by omega) (by omega) ?_
      refine aw_aaldZ (t0 := 5) (l n) (by rfl) dX1_tidy_26 (by assumption) (hld n (by omega)) (by omega) (by omega) ?_
      refine aw_get fX1_85 dX1_tidy_27 (by assumption) (by rfl) ?_
      refine aw_if_geZ (tgt := 46) dX1_tidy_30 (by decide) (sgn_R _) (fun hc_30 => ?_) (fun hc_30 => ?_)
      · have hTI1 : TIn A0 (AM G Z ρ) h w l Y n (n + 1) := hTO.inn (by omega) (hY n · (by omega)) (fun a ha hne j hj => rfl) (Or.inl ⟨by have h1 := (hTO.1.1 n (by omega)).2.1; have h2 : 0 ≤ Z (G.ga (ρ n) (l n)) := Int.sign_nonneg_iff.mp hc_30; have h3 : Z (G.ga (ρ n) (l n)) ≠ 0 := h1; show 0 < Z (G.ga (ρ n) (l n)); omega, fun j hj => rfl⟩)
        refine aw_iload_n dX1_tidy_46 (by rfl) ?_
        refine aw_iconstZ dX1_tidy_47 ?_
        refine aw_iaddZ dX1_tidy_48 ?_
        refine aw_istore_n dX1_tidy_49 (by decide) ?_
        rw [show ((n : Int) + 1) = ((n + 1 : Nat) : Int) by omega]
        refine aw_pk [2, 1, 0] (by rfl) ?_
        first | exact TD (n + 1) (by omega) (by omega) hs1.1 hD1 hG1 hTI1 (hNF.tr hNF1) | exact TD (n + 1) (by omega) (by omega) hw0 hD hG hTI1 hNF
      · refine aw_aload_n dX1_tidy_33 (by rfl) (Or.inr ⟨_, rfl⟩) ?_
        refine aw_get fX1_41 dX1_tidy_34 (by assumption) (by rfl) ?_
        refine aw_iload_n dX1_tidy_37 (by rfl) ?_
        refine aw_aaldZ (t0 := 4) (n) (by rfl) dX1_tidy_38 (by assumption) (by omega) (by omega) (by omega) ?_
        refine aw_aload_n dX1_tidy_39 (by rfl) (Or.inr ⟨_, rfl⟩) ?_
        refine aw_get fX1_32 dX1_tidy_40 (by assumption) (by rfl) ?_
        refine aw_callv vX1_96 dX1_tidy_43 hri.1 (w_negate (d + 4) hw0 hri (fun j hj => (hcell _ hRi j hj).1.1) (hcin _ hRi) (hSr _ hRi).1 (hSr _ hRi).2.1 hwm) (by rfl) (by rfl) (by omega) (Nat.le_of_ble_eq_true rfl) ?_
        rintro _ V1 sz1 mc1 ms1 ⟨Z1, P1, L1, ⟨rfl, hru⟩, hs1⟩ -
        refine WE.stp hs1 ?_
        have hkv1 : ∀ a, SA a → V1 a = V a := fun a ha => hs1.2.2.1 a ha (fun q => q)
        have hG1 := hG.kept hS hkv1
        have hot : ∀ a, a < G.mr → a ≠ n → ∀ j, j < G.mc → Z1 (G.ga (ρ a) j) = Z (G.ga (ρ a) j) := fun a ha hai j hj => hru.2 _ (fun q => q) (fun b _ hb q => hinj a n ha (by omega) hai (hginj _ _ _ _ (hRS a ha) hRi hj (by omega) q).1)
        have hNF1 : NF G Z Z1 := fun x h1 h2 h3 => hru.2 x (fun q => q) (fun b _ hb => h3 _ hRi b (by omega))
        have hD1 := hS.dkv hD (hkv1 _ hD.1) hNF1
        have hTI1 : TIn A0 (AM G Z1 ρ) h w l Y n (n + 1) := hTO.inn (by omega) (hY n · (by omega)) (fun a ha hne j hj => hot a (by omega) hne j (by omega)) (Or.inr ⟨by have := Int.sign_neg_iff.mp (show (Z (G.ga (ρ n) (l n))).sign < 0 by omega); exact this, fun j hj => hru.1 j (Nat.zero_le _) hj⟩)
        refine aw_iload_n dX1_tidy_46 (by rfl) ?_
        refine aw_iconstZ dX1_tidy_47 ?_
        refine aw_iaddZ dX1_tidy_48 ?_
        refine aw_istore_n dX1_tidy_49 (by decide) ?_
        rw [show ((n : Int) + 1) = ((n + 1 : Nat) : Int) by omega]
        refine aw_pk [2, 1, 0] (by rfl) ?_
        first | exact TD (n + 1) (by omega) (by omega) hs1.1 hD1 hG1 hTI1 (hNF.tr hNF1) | exact TD (n + 1) (by omega) (by omega) hw0 hD hG hTI1 hNF
theorem w_tidy {V : AH} {sz : Nat} {Z0 : Nat → Int} {P L : Nat → Nat} (g : GX) (d : Nat) {ws : List Nat} {SA : Nat → Prop} {D : DT} {G : GG} {h w : Nat} {l : Nat → Nat} {ld : Nat → Int} {ρ : Nat → Nat} {Y K : Int} (hS : GSt ws SA D G) (hhm : h ≤ G.mr) (hwm : w ≤ G.mc) (hld : ∀ i, i < h → ld i = (l i : Int)) (hL : LB (AM G Z0 ρ) h w K) (hY0 : 0 ≤ Y) (hK1 : 1 ≤ K) (hY : ∀ i m, i < h → m < h → ab ((AM G Z0 ρ) i (l m)) ≤ Y * ab ((AM G Z0 ρ) m (l m))) (hT2 : Sm (2 * ((Y + 1) * 2 ^ h * K))) (hw0 : WG g ws SA V sz Z0 P L) (hD : DKV ws SA V Z0 D) (hG : GD g V D.dk G h w ld ρ) (hE : Ech (AM G Z0 ρ) h w l) : AMet g mX1_tidy (d + 5) [.ref G.gd] V sz (WE g ws SA E0 V sz L (fun r V' Z' => none = r ∧ GD g V' D.dk G h w ld ρ ∧ Stair (AM G Z' ρ) h w l ∧ SpEq (AM G Z0 ρ) h (AM G Z' ρ) h w ∧ NF G Z0 Z')) := by
  obtain ⟨hgd, hra, hla, hrow, hRS, hinj⟩ := id hG
  refine AMet.of rfl rfl (Nat.le_of_ble_eq_true rfl) ?_
  show AW g mX1_tidy (d + 5) 0 [(0, .ref G.gd)] [] V sz _
  refine aw_aload_n dX1_tidy_0 (by rfl) (Or.inr ⟨_, rfl⟩) ?_
  refine aw_get fX1_28 dX1_tidy_1 (by assumption) (by rfl) ?_
  refine aw_iconstZ dX1_tidy_4 ?_
  refine aw_isubZ dX1_tidy_5 ?_
  refine aw_istore_n dX1_tidy_6 (by decide) ?_
  refine aw_pk [1, 0] (by rfl) ?_
  exact td_out g d hS hhm hwm hld hL hY0 hK1 hY hT2 h (Nat.le_refl _) hw0 hD hG (TOu.rf hE) NF.rf

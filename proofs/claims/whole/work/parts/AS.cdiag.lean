/-! ===== the class: diagonalOf ===== -/
def CBd : Int := 2 ^ 86
theorem sm_dgt : ∀ w : Fin 6, ∀ h : Fin 7, ((2 * ((Cs (KB w CBd) CBd h + 1) * 2 ^ ((h : Nat) + 1) * KB w CBd)).natAbs : Int) < 2147483648 ^ 150 := by decide +kernel
theorem sm_dg {w h : Nat} (hw : w < 6) (hh : h < 7) : Sm (2 * ((Cs (KB w CBd) CBd h + 1) * 2 ^ (h + 1) * KB w CBd)) := sm_dgt ⟨w, hw⟩ ⟨h, hh⟩
theorem cbd_pos : 1 ≤ CBd := by unfold CBd; decide +kernel
theorem sm_cb {x : Int} (h : ab x ≤ CBd) : Sm x := by
  have h1 : CBd < 2147483648 ^ 150 := by unfold CBd; decide +kernel
  unfold Sm
  unfold ab at h
  generalize (2147483648 : Int) ^ 150 = B at *
  omega
/-- two Grids apart from each other: what changes H leaves G -/
def DJ (G H : GG) : Prop := (∀ ro, G.RS ro → ∀ j, j < G.mc → G.ga ro j ≠ H.fa ∧ G.ga ro j ≠ H.pr ∧ ∀ ro', H.RS ro' → ∀ j', j' < H.mc → G.ga ro j ≠ H.ga ro' j') ∧ ¬ EG H G.gd ∧ ¬ EG H G.ra ∧ ¬ EG H G.la ∧ ∀ ro, G.RS ro → ¬ EG H ro ∧ ¬ EG H (G.ka ro)
theorem GD.dj {g : GX} {ws : List Nat} {SA : Nat → Prop} {D : DT} {G H : GG} {V V' : AH} {dk hh w : Nat} {ld : Nat → Int} {ρ : Nat → Nat} (h : GD g V dk G hh w ld ρ) (hS : GSt ws SA D G) (hdj : DJ G H) (hV : ∀ a, SA a → ¬ EG H a → V' a = V a) : GD g V' dk G hh w ld ρ :=
  ⟨(hV _ hS.1.1 hdj.2.1).trans h.1, (hV _ hS.1.2.1 hdj.2.2.1).trans h.2.1, (hV _ hS.1.2.2 hdj.2.2.2.1).trans h.2.2.1, fun ro hr => (h.2.2.2.1 ro hr).kept (hV _ (hS.2.2.2.1 ro hr).1 (hdj.2.2.2.2 ro hr).1) (hV _ (hS.2.2.2.1 ro hr).2.1 (hdj.2.2.2.2 ro hr).2), h.2.2.2.2⟩
theorem DJ.nf {G H : GG} {Z Z' : Nat → Int} {ro j : Nat} (hdj : DJ G H) (hN : NF H Z Z') (hr : G.RS ro) (hj : j < G.mc) : Z' (G.ga ro j) = Z (G.ga ro j) := hN _ (hdj.1 ro hr j hj).1 (hdj.1 ro hr j hj).2.1 (fun ro' hr' j' hj' => (hdj.1 ro hr j hj).2.2 ro' hr' j' hj')
/-- a Grid's own Desk, apart from another Grid -/
def DJD (F T : GG) : Prop := ¬ EG T (DG F.gd).dk ∧ ∀ x, (x = (DG F.gd).r ∨ x = (DG F.gd).dv ∨ x = (DG F.gd).on) → x ≠ T.fa ∧ x ≠ T.pr ∧ ∀ ro, T.RS ro → ∀ j, j < T.mc → x ≠ T.ga ro j
theorem DKV.nf {ws : List Nat} {SA : Nat → Prop} {F T : GG} {V V' : AH} {Z Z' : Nat → Int} (h : DKV ws SA V Z (DG F.gd)) (hj : DJD F T) (hV : ∀ a, SA a → ¬ EG T a → V' a = V a) (hN : NF T Z Z') : DKV ws SA V' Z' (DG F.gd) := by
  have k : ∀ x, (x = (DG F.gd).r ∨ x = (DG F.gd).dv ∨ x = (DG F.gd).on) → Z' x = Z x := fun x hx => hN x (hj.2 x hx).1 (hj.2 x hx).2.1 (hj.2 x hx).2.2
  exact h.kept (hV _ h.1 hj.1) (k _ (Or.inl rfl)) (k _ (Or.inr (Or.inl rfl))) (k _ (Or.inr (Or.inr rfl)))
/-- no number has changed but those of two Grids -/
def NF2 (G H : GG) (Z Z' : Nat → Int) : Prop := ∀ x, x ≠ G.fa → x ≠ G.pr → (∀ ro, G.RS ro → ∀ j, j < G.mc → x ≠ G.ga ro j) → x ≠ H.fa → x ≠ H.pr → (∀ ro, H.RS ro → ∀ j, j < H.mc → x ≠ H.ga ro j) → Z' x = Z x
theorem NF2.rf {G H : GG} {Z : Nat → Int} : NF2 G H Z Z := fun _ _ _ _ _ _ _ => rfl
theorem NF2.r {G H : GG} {Z Z1 Z2 : Nat → Int} (h : NF2 G H Z Z1) (k : NF H Z1 Z2) : NF2 G H Z Z2 := fun x a1 a2 a3 a4 a5 a6 => (k x a4 a5 a6).trans (h x a1 a2 a3 a4 a5 a6)
theorem NF2.sw {G H : GG} {Z Z1 : Nat → Int} (h : NF2 G H Z Z1) : NF2 H G Z Z1 := fun x a1 a2 a3 a4 a5 a6 => h x a4 a5 a6 a1 a2 a3
abbrev mX5_diagonalOf : MI := (yX5_diagonalOf, cX5_diagonalOf, 8, (some (FieldType.object "LatticeBench$Grid")), noX)
theorem dX5_diagonalOf_0 : decode cX5_diagonalOf 0 = .ok (.aload_n 0, 1) := by decide +kernel
theorem dX5_diagonalOf_1 : decode cX5_diagonalOf 1 = .ok (.astore_n 2, 1) := by decide +kernel
theorem dX5_diagonalOf_2 : decode cX5_diagonalOf 2 = .ok (.aload_n 1, 1) := by decide +kernel
theorem dX5_diagonalOf_3 : decode cX5_diagonalOf 3 = .ok (.astore_n 3, 1) := by decide +kernel
theorem dX5_diagonalOf_4 : decode cX5_diagonalOf 4 = .ok (.iconst 0, 1) := by decide +kernel
theorem dX5_diagonalOf_5 : decode cX5_diagonalOf 5 = .ok (.istore 4, 2) := by decide +kernel
theorem dX5_diagonalOf_7 : decode cX5_diagonalOf 7 = .ok (.iload 4, 2) := by decide +kernel
theorem dX5_diagonalOf_9 : decode cX5_diagonalOf 9 = .ok (.ldc_w 256, 3) := by decide +kernel
theorem dX5_diagonalOf_12 : decode cX5_diagonalOf 12 = .ok (.if_icmp .ge 107, 3) := by decide +kernel
theorem dX5_diagonalOf_15 : decode cX5_diagonalOf 15 = .ok (.aload_n 2, 1) := by decide +kernel
theorem dX5_diagonalOf_16 : decode cX5_diagonalOf 16 = .ok (.invokevirtual 244, 3) := by decide +kernel
theorem dX5_diagonalOf_19 : decode cX5_diagonalOf 19 = .ok (.ifCond .ne 100, 3) := by decide +kernel
theorem dX5_diagonalOf_22 : decode cX5_diagonalOf 22 = .ok (.aload_n 3, 1) := by decide +kernel
theorem dX5_diagonalOf_23 : decode cX5_diagonalOf 23 = .ok (.aload_n 2, 1) := by decide +kernel
theorem dX5_diagonalOf_24 : decode cX5_diagonalOf 24 = .ok (.getfield 111, 3) := by decide +kernel
theorem dX5_diagonalOf_27 : decode cX5_diagonalOf 27 = .ok (.invokevirtual 203, 3) := by decide +kernel
theorem dX5_diagonalOf_30 : decode cX5_diagonalOf 30 = .ok (.iconst 0, 1) := by decide +kernel
theorem dX5_diagonalOf_31 : decode cX5_diagonalOf 31 = .ok (.istore 5, 2) := by decide +kernel
theorem dX5_diagonalOf_33 : decode cX5_diagonalOf 33 = .ok (.iload 5, 2) := by decide +kernel
theorem dX5_diagonalOf_35 : decode cX5_diagonalOf 35 = .ok (.aload_n 2, 1) := by decide +kernel
theorem dX5_diagonalOf_36 : decode cX5_diagonalOf 36 = .ok (.getfield 114, 3) := by decide +kernel
theorem dX5_diagonalOf_39 : decode cX5_diagonalOf 39 = .ok (.if_icmp .ge 66, 3) := by decide +kernel
theorem dX5_diagonalOf_42 : decode cX5_diagonalOf 42 = .ok (.aload_n 3, 1) := by decide +kernel
theorem dX5_diagonalOf_43 : decode cX5_diagonalOf 43 = .ok (.getfield 141, 3) := by decide +kernel
theorem dX5_diagonalOf_46 : decode cX5_diagonalOf 46 = .ok (.aload_n 3, 1) := by decide +kernel
theorem dX5_diagonalOf_47 : decode cX5_diagonalOf 47 = .ok (.getfield 111, 3) := by decide +kernel
theorem dX5_diagonalOf_50 : decode cX5_diagonalOf 50 = .ok (.aaload, 1) := by decide +kernel
theorem dX5_diagonalOf_51 : decode cX5_diagonalOf 51 = .ok (.astore 6, 2) := by decide +kernel
theorem dX5_diagonalOf_53 : decode cX5_diagonalOf 53 = .ok (.iconst 0, 1) := by decide +kernel
theorem dX5_diagonalOf_54 : decode cX5_diagonalOf 54 = .ok (.istore 7, 2) := by decide +kernel
theorem dX5_diagonalOf_56 : decode cX5_diagonalOf 56 = .ok (.iload 7, 2) := by decide +kernel
theorem dX5_diagonalOf_58 : decode cX5_diagonalOf 58 = .ok (.aload_n 2, 1) := by decide +kernel
theorem dX5_diagonalOf_59 : decode cX5_diagonalOf 59 = .ok (.getfield 111, 3) := by decide +kernel
theorem dX5_diagonalOf_62 : decode cX5_diagonalOf 62 = .ok (.if_icmp .ge 33, 3) := by decide +kernel
theorem dX5_diagonalOf_65 : decode cX5_diagonalOf 65 = .ok (.aload 6, 2) := by decide +kernel
theorem dX5_diagonalOf_67 : decode cX5_diagonalOf 67 = .ok (.getfield 151, 3) := by decide +kernel
theorem dX5_diagonalOf_70 : decode cX5_diagonalOf 70 = .ok (.iload 7, 2) := by decide +kernel
theorem dX5_diagonalOf_72 : decode cX5_diagonalOf 72 = .ok (.aaload, 1) := by decide +kernel
theorem dX5_diagonalOf_73 : decode cX5_diagonalOf 73 = .ok (.aload_n 2, 1) := by decide +kernel
theorem dX5_diagonalOf_74 : decode cX5_diagonalOf 74 = .ok (.getfield 141, 3) := by decide +kernel
theorem dX5_diagonalOf_77 : decode cX5_diagonalOf 77 = .ok (.iload 7, 2) := by decide +kernel
theorem dX5_diagonalOf_79 : decode cX5_diagonalOf 79 = .ok (.aaload, 1) := by decide +kernel
theorem dX5_diagonalOf_80 : decode cX5_diagonalOf 80 = .ok (.getfield 151, 3) := by decide +kernel
theorem dX5_diagonalOf_83 : decode cX5_diagonalOf 83 = .ok (.iload 5, 2) := by decide +kernel
theorem dX5_diagonalOf_85 : decode cX5_diagonalOf 85 = .ok (.aaload, 1) := by decide +kernel
theorem dX5_diagonalOf_86 : decode cX5_diagonalOf 86 = .ok (.invokevirtual 192, 3) := by decide +kernel
theorem dX5_diagonalOf_89 : decode cX5_diagonalOf 89 = .ok (.iinc 7 1, 3) := by decide +kernel
theorem dX5_diagonalOf_92 : decode cX5_diagonalOf 92 = .ok (.goto (-36), 3) := by decide +kernel
theorem dX5_diagonalOf_95 : decode cX5_diagonalOf 95 = .ok (.aload_n 3, 1) := by decide +kernel
theorem dX5_diagonalOf_96 : decode cX5_diagonalOf 96 = .ok (.invokevirtual 200, 3) := by decide +kernel
theorem dX5_diagonalOf_99 : decode cX5_diagonalOf 99 = .ok (.iinc 5 1, 3) := by decide +kernel
theorem dX5_diagonalOf_102 : decode cX5_diagonalOf 102 = .ok (.goto (-69), 3) := by decide +kernel
theorem dX5_diagonalOf_105 : decode cX5_diagonalOf 105 = .ok (.aload_n 2, 1) := by decide +kernel
theorem dX5_diagonalOf_106 : decode cX5_diagonalOf 106 = .ok (.astore 5, 2) := by decide +kernel
theorem dX5_diagonalOf_108 : decode cX5_diagonalOf 108 = .ok (.aload_n 3, 1) := by decide +kernel
theorem dX5_diagonalOf_109 : decode cX5_diagonalOf 109 = .ok (.astore_n 2, 1) := by decide +kernel
theorem dX5_diagonalOf_110 : decode cX5_diagonalOf 110 = .ok (.aload 5, 2) := by decide +kernel
theorem dX5_diagonalOf_112 : decode cX5_diagonalOf 112 = .ok (.astore_n 3, 1) := by decide +kernel
theorem dX5_diagonalOf_113 : decode cX5_diagonalOf 113 = .ok (.iinc 4 1, 3) := by decide +kernel
theorem dX5_diagonalOf_116 : decode cX5_diagonalOf 116 = .ok (.goto (-109), 3) := by decide +kernel
theorem dX5_diagonalOf_119 : decode cX5_diagonalOf 119 = .ok (.aload_n 2, 1) := by decide +kernel
theorem dX5_diagonalOf_120 : decode cX5_diagonalOf 120 = .ok (.areturn, 1) := by decide +kernel
set_option maxRecDepth 20000 in
theorem dgf_in (g : GX) (d : Nat) {ws : List Nat} {SA E : Nat → Prop} {F T : GG} {h w rd : Nat} {V0 : AH} {Z0 : Nat → Int} {ld : Nat → Int} {ρ : Nat → Nat} {R : Option Value → AH → (Nat → Int) → Prop} (hSF : GSt ws SA (DG F.gd) F) (hST : GSt ws SA (DG T.gd) T) (hdj : DJ F T) (hm : F.mr = 6 ∧ F.mc = 5 ∧ T.mr = 6 ∧ T.mc = 5) (hET : ∀ a, EG T a → E a) (hF0 : GD g V0 (DG F.gd).dk F h w ld ρ) (hh : h ≤ 5) (hw5 : w ≤ 5) {ht j : Nat} {V1 : AH} {Z1 : Nat → Int} {ldt : Nat → Int} {ρt : Nat → Nat} (hV1 : ∀ a, SA a → ¬ EG T a → V1 a = V0 a) (hT1 : GD g V1 (DG T.gd).dk T ht h ldt ρt) (hj : j < w) (hht : ht < 6) (hb : ∀ i, i < h → Sm (Z1 (F.ga (ρ i) j))) (hKK : ∀ {V : AH} {sz : Nat} {Z : Nat → Int} {P L : Nat → Nat}, WG g ws SA V sz Z P L → (∀ a, SA a → V a = V1 a) → RU Z1 Z (T.ga (ρt ht)) 0 h (fun i => Z1 (F.ga (ρ i) j)) E0 → AW g mX5_diagonalOf (d + 7) 95 [(5, .int (iZ j)), (2, .ref F.gd), (3, .ref T.gd), (4, .int (iZ rd))] [] V sz (WE g ws SA E V sz L R)) : ∀ (x i : Nat), i + x = h → ∀ {V : AH} {sz : Nat} {Z : Nat → Int} {P L : Nat → Nat}, WG g ws SA V sz Z P L → (∀ a, SA a → V a = V1 a) → RU Z1 Z (T.ga (ρt ht)) 0 i (fun i => Z1 (F.ga (ρ i) j)) E0 → AW g mX5_diagonalOf (d + 7) 56 [(7, .int (iZ i)), (6, .ref (ρt ht)), (5, .int (iZ j)), (2, .ref F.gd), (3, .ref T.gd), (4, .int (iZ rd))] [] V sz (WE g ws SA E V sz L R)
  | 0, i, hx, V, sz, Z, P, L, hw0, hV, hru => by
    obtain rfl : h = i := by omega
    obtain ⟨m1, m2, m3, m4⟩ := hm
    have hF : GD g V (DG F.gd).dk F h w ld ρ := hF0.dj hSF hdj (fun a ha hE => (hV a ha).trans (hV1 a ha hE))
    have hT : GD g V (DG T.gd).dk T ht h ldt ρt := hT1.kept hST hV
    obtain ⟨fgd, fra, -, frow, fRS, finj⟩ := id hF
    obtain ⟨tgd, tra, -, trow, tRS, tinj⟩ := id hT
    have hRt := tRS ht (by omega)
    obtain ⟨th1, th2, -⟩ := trow _ hRt
    refine aw_iload dX5_diagonalOf_56 (by rfl) ?_
    refine aw_aload_n dX5_diagonalOf_58 (by rfl) (Or.inr ⟨_, rfl⟩) ?_
    refine aw_get fX5_111 dX5_diagonalOf_59 fgd (by rfl) ?_
    refine aw_icmp_geZ (tgt := 95) dX5_diagonalOf_62 (by decide) (by omega) (by omega) (fun hc_62 => ?_) (fun hc_62 => ?_)
    · refine aw_pk [5, 2, 3, 4] (by rfl) ?_
      exact hKK hw0 hV hru
    · exact absurd hc_62 (by omega)
  | x + 1, i, hx, V, sz, Z, P, L, hw0, hV, hru => by
    have IH := fun i hi => @dgf_in g d ws SA E F T h w rd V0 Z0 ld ρ R hSF hST hdj hm hET hF0 hh hw5 ht j V1 Z1 ldt ρt hV1 hT1 hj hht hb hKK x i hi
    obtain ⟨m1, m2, m3, m4⟩ := hm
    have hF : GD g V (DG F.gd).dk F h w ld ρ := hF0.dj hSF hdj (fun a ha hE => (hV a ha).trans (hV1 a ha hE))
    have hT : GD g V (DG T.gd).dk T ht h ldt ρt := hT1.kept hST hV
    obtain ⟨fgd, fra, -, frow, fRS, finj⟩ := id hF
    obtain ⟨tgd, tra, -, trow, tRS, tinj⟩ := id hT
    have hRt := tRS ht (by omega)
    obtain ⟨th1, th2, -⟩ := trow _ hRt
    have hRi := fRS i (by omega)
    obtain ⟨fi1, fi2, -⟩ := frow _ hRi
    have hct := (hST.2.2.2.2.1 _ hRt i (by omega)).1.1
    have hcf := (hSF.2.2.2.2.1 _ hRi j (by omega)).1.1
    have hne : T.ga (ρt ht) i ≠ F.ga (ρ i) j := fun q => (hdj.1 _ hRi j (by omega)).2.2 _ hRt i (by omega) q.symm
    have hz : Z (F.ga (ρ i) j) = Z1 (F.ga (ρ i) j) := hru.2 _ (fun q => q) (fun e _ he => (hdj.1 _ hRi j (by omega)).2.2 _ hRt e (by omega))
    have hcin : ∀ e, e < i → T.ga (ρt ht) e ≠ T.ga (ρt ht) i := fun e he q => by have := (hST.2.2.2.2.2.1 _ _ _ _ hRt hRt (show e < T.mc by omega) (show i < T.mc by omega) q).2; omega
    obtain ⟨nt, Ft, hWt⟩ := hw0.raw hct
    refine aw_iload dX5_diagonalOf_56 (by rfl) ?_
    refine aw_aload_n dX5_diagonalOf_58 (by rfl) (Or.inr ⟨_, rfl⟩) ?_
    refine aw_get fX5_111 dX5_diagonalOf_59 fgd (by rfl) ?_
    refine aw_icmp_geZ (tgt := 95) dX5_diagonalOf_62 (by decide) (by omega) (by omega) (fun hc_62 => ?_) (fun hc_62 => ?_)
    · exact absurd hc_62 (by omega)
    · refine aw_aload dX5_diagonalOf_65 (by rfl) (Or.inr ⟨_, rfl⟩) ?_
      refine aw_get fX5_151 dX5_diagonalOf_67 th1 (by rfl) ?_
      refine aw_iload dX5_diagonalOf_70 (by rfl) ?_
      refine aw_aaldZ (t0 := 5) (i) (by rfl) dX5_diagonalOf_72 th2 (by omega) (by omega) (by omega) ?_
      refine aw_aload_n dX5_diagonalOf_73 (by rfl) (Or.inr ⟨_, rfl⟩) ?_
      refine aw_get fX5_141 dX5_diagonalOf_74 fgd (by rfl) ?_
      refine aw_iload dX5_diagonalOf_77 (by rfl) ?_
      refine aw_aaldZ (t0 := 4) (i) (by rfl) dX5_diagonalOf_79 fra (by omega) (by omega) (by omega) ?_
      refine aw_get fX5_151 dX5_diagonalOf_80 fi1 (by rfl) ?_
      refine aw_iload dX5_diagonalOf_83 (by rfl) ?_
      refine aw_aaldZ (t0 := 5) (j) (by rfl) dX5_diagonalOf_85 fi2 (by omega) (by omega) (by omega) ?_
      refine aw_callv vX5_192 dX5_diagonalOf_86 hWt.1 (w_copy (d + 3) hw0 hct hcf hne (Sm.u156 (by rw [hz]; exact hb i (by omega)))) (by rfl) (by rfl) (by omega) (Nat.le_of_ble_eq_true rfl) ?_
      rintro _ V2 sz2 mc2 ms2 ⟨rfl, P2, L2, hs2⟩ -
      refine WE.stp (WSE.of hs2) ?_
      refine aw_iincZ dX5_diagonalOf_89 (by rfl) (by decide) ?_
      refine aw_goto (tgt := 56) dX5_diagonalOf_92 (by decide) ?_
      rw [show ((i : Int) + 1) = ((i + 1 : Nat) : Int) by omega]
      refine aw_pk [7, 6, 5, 2, 3, 4] (by rfl) ?_
      exact IH (i + 1) (by omega) hs2.1 (fun a ha => (hs2.2.2.1 a ha).trans (hV a ha)) (hru.up (Nat.zero_le _) hcin hz)
set_option maxRecDepth 20000 in
theorem dgf_j (g : GX) (d : Nat) {ws : List Nat} {SA E : Nat → Prop} {F T : GG} {h w rd : Nat} {V0 : AH} {Z0 : Nat → Int} {ld : Nat → Int} {ρ : Nat → Nat} {R : Option Value → AH → (Nat → Int) → Prop} (hSF : GSt ws SA (DG F.gd) F) (hST : GSt ws SA (DG T.gd) T) (hdj : DJ F T) (hm : F.mr = 6 ∧ F.mc = 5 ∧ T.mr = 6 ∧ T.mc = 5) (hET : ∀ a, EG T a → E a) (hF0 : GD g V0 (DG F.gd).dk F h w ld ρ) (hh : h ≤ 5) (hw5 : w ≤ 5) (hw0e : ∀ i j, i < h → j < w → ab (AM F Z0 ρ i j) ≤ CBd) (hKK : ∀ {V : AH} {sz : Nat} {Z : Nat → Int} {P L : Nat → Nat} {ht : Nat} {ldt : Nat → Int} {lt ρt : Nat → Nat}, WG g ws SA V sz Z P L → DKV ws SA V Z (DG T.gd) → (∀ a, SA a → ¬ EG T a → V a = V0 a) → GD g V (DG T.gd).dk T ht h ldt ρt → (∀ i, i < ht → ldt i = (lt i : Int)) → Stair (AM T Z ρt) ht h lt → SpEq (fun i c => AM F Z0 ρ c i) w (AM T Z ρt) ht h → NF T Z0 Z → AW g mX5_diagonalOf (d + 7) 7 [(2, .ref T.gd), (3, .ref F.gd), (4, .int (iZ (rd + 1 : Nat)))] [] V sz (WE g ws SA E V sz L R)) : ∀ (x j : Nat), j + x = w → ∀ {V : AH} {sz : Nat} {Z : Nat → Int} {P L : Nat → Nat} {ht : Nat} {ldt : Nat → Int} {lt ρt : Nat → Nat}, WG g ws SA V sz Z P L → DKV ws SA V Z (DG T.gd) → (∀ a, SA a → ¬ EG T a → V a = V0 a) → GD g V (DG T.gd).dk T ht h ldt ρt → (∀ i, i < ht → ldt i = (lt i : Int)) → Stair (AM T Z ρt) ht h lt → SpEq (fun i c => AM F Z0 ρ c i) j (AM T Z ρt) ht h → NF T Z0 Z → AW g mX5_diagonalOf (d + 7) 33 [(5, .int (iZ j)), (2, .ref F.gd), (3, .ref T.gd), (4, .int (iZ rd))] [] V sz (WE g ws SA E V sz L R)
  | 0, j, hx, V, sz, Z, P, L, ht, ldt, lt, ρt, hw0, hD, hV, hT, hld, hst, hsp, hNF => by
    obtain rfl : w = j := by omega
    have hF : GD g V (DG F.gd).dk F h w ld ρ := hF0.dj hSF hdj hV
    obtain ⟨fgd, -⟩ := id hF
    refine aw_iload dX5_diagonalOf_33 (by rfl) ?_
    refine aw_aload_n dX5_diagonalOf_35 (by rfl) (Or.inr ⟨_, rfl⟩) ?_
    refine aw_get fX5_114 dX5_diagonalOf_36 fgd (by rfl) ?_
    refine aw_icmp_geZ (tgt := 105) dX5_diagonalOf_39 (by decide) (by omega) (by omega) (fun hc_39 => ?_) (fun hc_39 => ?_)
    · refine aw_aload_n dX5_diagonalOf_105 (by rfl) (Or.inr ⟨_, rfl⟩) ?_
      refine aw_astore dX5_diagonalOf_106 (by decide) (Or.inr ⟨_, rfl⟩) ?_
      refine aw_aload_n dX5_diagonalOf_108 (by rfl) (Or.inr ⟨_, rfl⟩) ?_
      refine aw_astore_n dX5_diagonalOf_109 (by decide) (Or.inr ⟨_, rfl⟩) ?_
      refine aw_aload dX5_diagonalOf_110 (by rfl) (Or.inr ⟨_, rfl⟩) ?_
      refine aw_astore_n dX5_diagonalOf_112 (by decide) (Or.inr ⟨_, rfl⟩) ?_
      refine aw_iincZ dX5_diagonalOf_113 (by rfl) (by decide) ?_
      refine aw_goto (tgt := 7) dX5_diagonalOf_116 (by decide) ?_
      rw [show ((rd : Int) + 1) = ((rd + 1 : Nat) : Int) by omega]
      refine aw_pk [2, 3, 4] (by rfl) ?_
      exact hKK hw0 hD hV hT hld hst hsp hNF
    · exact absurd hc_39 (by omega)
  | x + 1, j, hx, V, sz, Z, P, L, ht, ldt, lt, ρt, hw0, hD, hV, hT, hld, hst, hsp, hNF => by
    have IH := fun j hj => @dgf_j g d ws SA E F T h w rd V0 Z0 ld ρ R hSF hST hdj hm hET hF0 hh hw5 hw0e hKK x j hj
    have hF : GD g V (DG F.gd).dk F h w ld ρ := hF0.dj hSF hdj hV
    obtain ⟨fgd, -⟩ := id hF
    obtain ⟨m1, m2, m3, m4⟩ := id hm
    obtain ⟨tgd, tra, -, trow, tRS, tinj⟩ := id hT
    have hhw := hst.1.le_w
    have hRh := tRS ht (by omega)
    obtain ⟨-, -, -, hSr, hcell, hginj, hmr, hmc⟩ := id hST
    have hDE : ¬ EG T (DG T.gd).dk := fun q => by rcases q with q | q | q; exact hST.2.1.2.2.2.1 q; exact hST.2.1.2.2.2.2.1 q; exact hST.2.1.2.2.2.2.2 q
    have hFz : ∀ i, i < h → Z (F.ga (ρ i) j) = AM F Z0 ρ i j := fun i hi => hdj.nf hNF (hF.2.2.2.2.1 i (by omega)) (by omega)
    have hEb : ∀ k c, k < j + 1 → c < h → ab ((fun i c => AM F Z0 ρ c i) k c) ≤ CBd := fun k c hk hc => hw0e c k hc (by omega)
    refine aw_iload dX5_diagonalOf_33 (by rfl) ?_
    refine aw_aload_n dX5_diagonalOf_35 (by rfl) (Or.inr ⟨_, rfl⟩) ?_
    refine aw_get fX5_114 dX5_diagonalOf_36 fgd (by rfl) ?_
    refine aw_icmp_geZ (tgt := 105) dX5_diagonalOf_39 (by decide) (by omega) (by omega) (fun hc_39 => ?_) (fun hc_39 => ?_)
    · exact absurd hc_39 (by omega)
    · refine aw_aload_n dX5_diagonalOf_42 (by rfl) (Or.inr ⟨_, rfl⟩) ?_
      refine aw_get fX5_141 dX5_diagonalOf_43 tgd (by rfl) ?_
      refine aw_aload_n dX5_diagonalOf_46 (by rfl) (Or.inr ⟨_, rfl⟩) ?_
      refine aw_get fX5_111 dX5_diagonalOf_47 tgd (by rfl) ?_
      refine aw_aaldZ (t0 := 4) (ht) (by rfl) dX5_diagonalOf_50 tra (by omega) (by omega) (by omega) ?_
      refine aw_astore dX5_diagonalOf_51 (by decide) (Or.inr ⟨_, rfl⟩) ?_
      refine aw_iconstZ dX5_diagonalOf_53 ?_
      refine aw_istore dX5_diagonalOf_54 (by decide) ?_
      refine aw_pk [7, 6, 5, 2, 3, 4] (by rfl) ?_
      refine dgf_in g d hSF hST hdj hm hET hF0 hh hw5 (Z0 := Z0) (ht := ht) (j := j) (V1 := V) (Z1 := Z) (ldt := ldt) (ρt := ρt) hV hT (by omega) (by omega) (fun i hi => by rw [hFz i hi]; exact sm_cb (hw0e i j hi (by omega))) (fun {V1 sz1 Z1 P1 L1} hw1 hkv1 hru => ?_) h 0 (by omega) hw0 (fun _ _ => rfl) RU.nil
      have hG1 := hT.kept hST hkv1
      have hgd1 := hG1.1
      have hot : ∀ a, a < T.mr → a ≠ ht → ∀ c, c < T.mc → Z1 (T.ga (ρt a) c) = Z (T.ga (ρt a) c) := fun a ha hai c hc => hru.2 _ (fun q => q) (fun b _ hb q => tinj a ht ha (by omega) hai (hginj _ _ _ _ (tRS a ha) hRh hc (by omega) q).1)
      have hrw : ∀ c, c < h → Z1 (T.ga (ρt ht) c) = AM F Z0 ρ c j := fun c hc => (hru.1 c (Nat.zero_le _) hc).trans (hFz c hc)
      have hNF1 : NF T Z Z1 := fun x h1 h2 h3 => hru.2 x (fun q => q) (fun b _ hb => h3 _ hRh b (by omega))
      have hD1 := hST.dkv hD (hkv1 _ hD.1) hNF1
      have hst1 : Stair (AM T Z1 ρt) ht h lt := hst.cong (fun a ha c hc => hot a (by omega) (by omega) c (by omega))
      have hsp1 : SpEq (fun i c => AM F Z0 ρ c i) j (AM T Z1 ρt) ht h := hsp.tr (SpEq.cong (fun a ha c hc => (hot a (by omega) (by omega) c (by omega)).symm))
      have hsp2 : SpEq (fun i c => AM F Z0 ρ c i) (j + 1) (AM T Z1 ρt) (ht + 1) h := hsp1.push (fun _ _ _ _ => rfl) (fun _ _ _ _ => rfl) (fun c hc => (hrw c hc).symm)
      refine aw_aload_n dX5_diagonalOf_95 (by rfl) (Or.inr ⟨_, rfl⟩) ?_
      refine aw_callv vX5_200 dX5_diagonalOf_96 hgd1 (w_takeIn g d hST (by omega) (by omega) (by omega) hst1 ((LB.mono0 (n := j + 1) cbd_pos hEb (by omega)).eq hsp1) ((LB.mono0 (n := j + 1) cbd_pos hEb (Nat.le_refl _)).eq hsp2) (KB.one cbd_pos) (c := CBd) cbd_pos (fun c hc => by show ab (Z1 _) ≤ _; rw [hrw c hc]; exact hw0e c j hc (by omega)) (sm_dg (by omega) (by omega)) hld hw1 hD1 hG1) (by rfl) (by rfl) (by omega) (Nat.le_of_ble_eq_true rfl) ?_
      rintro _ V2 sz2 mc2 ms2 ⟨Z2, P2', L2, ⟨rfl, h2, ld2, l2, ρ2, hG2, hld2, hst2, hsp3, hNF2, hh2⟩, hs2⟩ -
      refine WE.stp (hs2.weak hET) ?_
      have hD2 := hST.dkv hD1 (hs2.2.2.1 _ hD.1 hDE) hNF2
      refine aw_iincZ dX5_diagonalOf_99 (by rfl) (by decide) ?_
      refine aw_goto (tgt := 33) dX5_diagonalOf_102 (by decide) ?_
      rw [show ((j : Int) + 1) = ((j + 1 : Nat) : Int) by omega]
      refine aw_pk [5, 2, 3, 4] (by rfl) ?_
      exact IH (j + 1) (by omega) hs2.1 hD2 (fun a ha hE => (hs2.2.2.1 a ha hE).trans ((hkv1 a ha).trans (hV a ha hE))) hG2 hld2 hst2 (hsp2.tr hsp3) (hNF.tr (hNF1.tr hNF2))

/-! ===== the class: dual ===== -/
/-- the cofactors over what they share -/
def DM (S : TSt) (x : Nat) (gg : Int) : Mat := fun i j => cof (S.c x) (TM (S.N x)) i j / gg
theorem sg_par {i j : Nat} : sgI (i + j) = if (i + j) % 2 = 0 then 1 else -1 := sgI_par (i + j)
theorem dm_val {S : TSt} {x i j : Nat} {gg : Int} (hg : 0 < gg) (hd : gg ∣ mnr S x i j) : DM S x gg i j = if (i + j) % 2 = 0 then (mnr S x i j).tdiv gg else -((mnr S x i j).tdiv gg) := by
  obtain ⟨u, hu⟩ := hd
  have h1 : (mnr S x i j).tdiv gg = u := by rw [hu]; exact Int.mul_tdiv_cancel_left u (by omega)
  have h2 : DM S x gg i j = sgI (i + j) * mnr S x i j / gg := rfl
  rw [h1, h2, hu, sg_par]
  split
  · rw [Int.one_mul]; exact Int.mul_ediv_cancel_left u (by omega)
  · rw [show -1 * (gg * u) = gg * -u by rw [Int.mul_neg]; omega]; exact Int.mul_ediv_cancel_left (-u) (by omega)
theorem tdiv_ab {a p : Int} (hp : 0 < p) : ab (a.tdiv p) ≤ ab a := by
  unfold ab
  rw [Int.natAbs_tdiv]
  exact Int.ofNat_le.mpr (Nat.div_le_self a.natAbs p.natAbs)
theorem dm_ab {S : TSt} {x i j : Nat} {gg : Int} (hg : 0 < gg) (hd : gg ∣ mnr S x i j) (hm : ab (mnr S x i j) ≤ 24000000000000) : ab (DM S x gg i j) ≤ 24000000000000 := by
  rw [dm_val hg hd]
  have := tdiv_ab (a := mnr S x i j) hg
  split
  · omega
  · rw [ab_neg]; omega
theorem cof_dvd {S : TSt} {x i j : Nat} {d : Int} : d ∣ cof (S.c x) (TM (S.N x)) i j ↔ d ∣ mnr S x i j := by
  have h2 : cof (S.c x) (TM (S.N x)) i j = sgI (i + j) * mnr S x i j := rfl
  rw [h2, sg_par]
  split
  · rw [Int.one_mul]
  · rw [show -1 * mnr S x i j = - mnr S x i j by omega]
    exact ⟨fun z => by have := dvd_ng z; rwa [Int.neg_neg] at this, dvd_ng⟩
/-- the cofactors of a table whose WORTH isn't 0 reach everything over the fractions: full RANK -/
theorem dm_rank {S : TSt} {x h : Nat} {gg : Int} {l : Nat → Nat} {B : Mat} (hd0 : det (S.c x) (TM (S.N x)) ≠ 0) (hdv : ∀ i j, i < S.c x → j < S.c x → gg ∣ cof (S.c x) (TM (S.N x)) i j) (hg : 0 < gg) (e : Ech B h (S.c x) l) (hs : SpEq (DM S x gg) (S.c x) B h (S.c x)) : h = S.c x := by
  have hle := e.le_w
  by_cases q : h < S.c x
  · exfalso
    have h1 : DVT (S.c x) (DM S x gg) (S.c x) (S.c x) 0 := (DVT.eq hs).mpr (DVT.void q)
    have h2 : DVT (S.c x) (cof (S.c x) (TM (S.N x))) (S.c x) (S.c x) 0 := h1.span (fun i hi => ((Span.row hi).lin gg 0 (Span.row hi)).congr (fun j hj => by
      show gg * (cof (S.c x) (TM (S.N x)) i j / gg) + 0 * _ = _
      rw [Int.mul_ediv_cancel' (hdv i j hi hj)]; omega))
    have h3 := h2 (fun a => a) (fun a => a) (fun a ha => ha) (fun a ha => ha)
    obtain ⟨y, hy⟩ := h3
    rw [Int.zero_mul] at hy
    have h4 := ml_main (S.c x) (ml_det (S.c x)) (TM (S.N x)) (fun k j => cof (S.c x) (TM (S.N x)) j k)
    rw [det_T (S.c x) (cof (S.c x) (TM (S.N x))), show det (S.c x) (cof (S.c x) (TM (S.N x))) = 0 from hy, Int.mul_zero] at h4
    have h5 : det (S.c x) (fun i j => Sg (fun k => TM (S.N x) i k * cof (S.c x) (TM (S.N x)) j k) (S.c x)) = det (S.c x) (Dg (fun _ => det (S.c x) (TM (S.N x)))) := det_congr (fun i j hi hj => by rw [adj1 (TM (S.N x)) hi hj]; rfl)
    rw [h5, det_low (fun i j hij hj => dg_o _ (by omega))] at h4
    exact Pd_ne (f := fun i => Dg (fun _ => det (S.c x) (TM (S.N x))) i i) (n := S.c x) (fun i hi => by rw [dg_d]; exact hd0) h4
  · omega
def DuaR (S : TSt) (A : ASt) (x : Nat) (q : Option Value) (A' : ASt) : Prop := (¬ (S.r x = S.c x ∧ det (S.c x) (TM (S.N x)) ≠ 0) ∧ some (.int (iZ 0)) = q ∧ A' = A) ∨ (S.r x = S.c x ∧ det (S.c x) (TM (S.N x)) ≠ 0 ∧ ∃ (gg : Int) (l : Nat → Nat) (B : Mat), 0 < gg ∧ (∀ d : Int, d ∣ gg ↔ ∀ i j, i < S.c x → j < S.c x → d ∣ cof (S.c x) (TM (S.N x)) i j) ∧ Stair B (S.c x) (S.c x) l ∧ SpEq (DM S x gg) (S.c x) B (S.c x) (S.c x) ∧ some (.int (iZ ((S.c x : Int) + 1))) = q ∧ AIs A' (S.c x + 1) (S.c x) (duM (ab (det (S.c x) (TM (S.N x))) / gg) B))
theorem t_minorM {g : GX} {b : Nat} {X : Nat → Prop} {V : AH} {sz : Nat} {Z : Nat → Int} {S : TSt} {A : ASt} (d : Nat) {x r c : Nat} (h : CX g b X V Z S A) (hx : x < 12) (hrx : 0 < S.r x) (hr : r < S.c x) (hc : c < S.c x) : AMet g mX5_minorWithout (d + 1) [.ref b, .ref (b + 647 + 3 * x), .int (iZ (r : Int)), .int (iZ (c : Int))] V sz (MwQ g b V sz (mnr S x r c)) := t_minorW d h hx hrx hr hc
theorem cb_24 : (24000000000000 : Int) ≤ CBd := by unfold CBd; decide +kernel
abbrev mX5_dual : MI := (yX5_dual, cX5_dual, 15, (some FieldType.int), noX)
theorem dX5_dual_0 : decode cX5_dual 0 = .ok (.aload_n 0, 1) := by decide +kernel
theorem dX5_dual_1 : decode cX5_dual 1 = .ok (.iload_n 1, 1) := by decide +kernel
theorem dX5_dual_2 : decode cX5_dual 2 = .ok (.invokevirtual 72, 3) := by decide +kernel
theorem dX5_dual_5 : decode cX5_dual 5 = .ok (.astore_n 2, 1) := by decide +kernel
theorem dX5_dual_6 : decode cX5_dual 6 = .ok (.aload_n 2, 1) := by decide +kernel
theorem dX5_dual_7 : decode cX5_dual 7 = .ok (.ifnonnull 5, 3) := by decide +kernel
theorem dX5_dual_10 : decode cX5_dual 10 = .ok (.iconst (-1), 1) := by decide +kernel
theorem dX5_dual_11 : decode cX5_dual 11 = .ok (.ireturn, 1) := by decide +kernel
theorem dX5_dual_12 : decode cX5_dual 12 = .ok (.aload_n 2, 1) := by decide +kernel
theorem dX5_dual_13 : decode cX5_dual 13 = .ok (.getfield 96, 3) := by decide +kernel
theorem dX5_dual_16 : decode cX5_dual 16 = .ok (.aload_n 2, 1) := by decide +kernel
theorem dX5_dual_17 : decode cX5_dual 17 = .ok (.getfield 79, 3) := by decide +kernel
theorem dX5_dual_20 : decode cX5_dual 20 = .ok (.if_icmp .eq 5, 3) := by decide +kernel
theorem dX5_dual_23 : decode cX5_dual 23 = .ok (.iconst 0, 1) := by decide +kernel
theorem dX5_dual_24 : decode cX5_dual 24 = .ok (.ireturn, 1) := by decide +kernel
theorem dX5_dual_25 : decode cX5_dual 25 = .ok (.aload_n 2, 1) := by decide +kernel
theorem dX5_dual_26 : decode cX5_dual 26 = .ok (.getfield 96, 3) := by decide +kernel
theorem dX5_dual_29 : decode cX5_dual 29 = .ok (.istore_n 3, 1) := by decide +kernel
theorem dX5_dual_30 : decode cX5_dual 30 = .ok (.aload_n 0, 1) := by decide +kernel
theorem dX5_dual_31 : decode cX5_dual 31 = .ok (.aload_n 2, 1) := by decide +kernel
theorem dX5_dual_32 : decode cX5_dual 32 = .ok (.iconst (-1), 1) := by decide +kernel
theorem dX5_dual_33 : decode cX5_dual 33 = .ok (.iconst (-1), 1) := by decide +kernel
theorem dX5_dual_34 : decode cX5_dual 34 = .ok (.invokevirtual 155, 3) := by decide +kernel
theorem dX5_dual_37 : decode cX5_dual 37 = .ok (.lstore 4, 2) := by decide +kernel
theorem dX5_dual_39 : decode cX5_dual 39 = .ok (.lload 4, 2) := by decide +kernel
theorem dX5_dual_41 : decode cX5_dual 41 = .ok (.lconst 0, 1) := by decide +kernel
theorem dX5_dual_42 : decode cX5_dual 42 = .ok (.lcmp, 1) := by decide +kernel
theorem dX5_dual_43 : decode cX5_dual 43 = .ok (.ifCond .ne 5, 3) := by decide +kernel
theorem dX5_dual_46 : decode cX5_dual 46 = .ok (.iconst 0, 1) := by decide +kernel
theorem dX5_dual_47 : decode cX5_dual 47 = .ok (.ireturn, 1) := by decide +kernel
theorem dX5_dual_48 : decode cX5_dual 48 = .ok (.aload_n 0, 1) := by decide +kernel
theorem dX5_dual_49 : decode cX5_dual 49 = .ok (.aload_n 2, 1) := by decide +kernel
theorem dX5_dual_50 : decode cX5_dual 50 = .ok (.invokevirtual 220, 3) := by decide +kernel
theorem dX5_dual_53 : decode cX5_dual 53 = .ok (.lstore 6, 2) := by decide +kernel
theorem dX5_dual_55 : decode cX5_dual 55 = .ok (.aload_n 0, 1) := by decide +kernel
theorem dX5_dual_56 : decode cX5_dual 56 = .ok (.getfield 35, 3) := by decide +kernel
theorem dX5_dual_59 : decode cX5_dual 59 = .ok (.iload_n 3, 1) := by decide +kernel
theorem dX5_dual_60 : decode cX5_dual 60 = .ok (.invokevirtual 203, 3) := by decide +kernel
theorem dX5_dual_63 : decode cX5_dual 63 = .ok (.iconst 0, 1) := by decide +kernel
theorem dX5_dual_64 : decode cX5_dual 64 = .ok (.istore 8, 2) := by decide +kernel
theorem dX5_dual_66 : decode cX5_dual 66 = .ok (.iload 8, 2) := by decide +kernel
theorem dX5_dual_68 : decode cX5_dual 68 = .ok (.iload_n 3, 1) := by decide +kernel
theorem dX5_dual_69 : decode cX5_dual 69 = .ok (.if_icmp .ge 106, 3) := by decide +kernel
theorem dX5_dual_72 : decode cX5_dual 72 = .ok (.aload_n 0, 1) := by decide +kernel
theorem dX5_dual_73 : decode cX5_dual 73 = .ok (.getfield 35, 3) := by decide +kernel
theorem dX5_dual_76 : decode cX5_dual 76 = .ok (.getfield 141, 3) := by decide +kernel
theorem dX5_dual_79 : decode cX5_dual 79 = .ok (.aload_n 0, 1) := by decide +kernel
theorem dX5_dual_80 : decode cX5_dual 80 = .ok (.getfield 35, 3) := by decide +kernel
theorem dX5_dual_83 : decode cX5_dual 83 = .ok (.getfield 111, 3) := by decide +kernel
theorem dX5_dual_86 : decode cX5_dual 86 = .ok (.aaload, 1) := by decide +kernel
theorem dX5_dual_87 : decode cX5_dual 87 = .ok (.astore 9, 2) := by decide +kernel
theorem dX5_dual_89 : decode cX5_dual 89 = .ok (.iconst 0, 1) := by decide +kernel
theorem dX5_dual_90 : decode cX5_dual 90 = .ok (.istore 10, 2) := by decide +kernel
theorem dX5_dual_92 : decode cX5_dual 92 = .ok (.iload 10, 2) := by decide +kernel
theorem dX5_dual_94 : decode cX5_dual 94 = .ok (.iload_n 3, 1) := by decide +kernel
theorem dX5_dual_95 : decode cX5_dual 95 = .ok (.if_icmp .ge 67, 3) := by decide +kernel
theorem dX5_dual_98 : decode cX5_dual 98 = .ok (.aload_n 0, 1) := by decide +kernel
theorem dX5_dual_99 : decode cX5_dual 99 = .ok (.aload_n 2, 1) := by decide +kernel
theorem dX5_dual_100 : decode cX5_dual 100 = .ok (.iload 8, 2) := by decide +kernel
theorem dX5_dual_102 : decode cX5_dual 102 = .ok (.iload 10, 2) := by decide +kernel
theorem dX5_dual_104 : decode cX5_dual 104 = .ok (.invokevirtual 155, 3) := by decide +kernel
theorem dX5_dual_107 : decode cX5_dual 107 = .ok (.lstore 11, 2) := by decide +kernel
theorem dX5_dual_109 : decode cX5_dual 109 = .ok (.lload 6, 2) := by decide +kernel
theorem dX5_dual_111 : decode cX5_dual 111 = .ok (.lconst 0, 1) := by decide +kernel
theorem dX5_dual_112 : decode cX5_dual 112 = .ok (.lcmp, 1) := by decide +kernel
theorem dX5_dual_113 : decode cX5_dual 113 = .ok (.ifCond .le 11, 3) := by decide +kernel
theorem dX5_dual_116 : decode cX5_dual 116 = .ok (.lload 11, 2) := by decide +kernel
theorem dX5_dual_118 : decode cX5_dual 118 = .ok (.lload 6, 2) := by decide +kernel
theorem dX5_dual_120 : decode cX5_dual 120 = .ok (.ldiv, 1) := by decide +kernel
theorem dX5_dual_121 : decode cX5_dual 121 = .ok (.goto 4, 3) := by decide +kernel
theorem dX5_dual_124 : decode cX5_dual 124 = .ok (.lconst 0, 1) := by decide +kernel
theorem dX5_dual_125 : decode cX5_dual 125 = .ok (.lstore 13, 2) := by decide +kernel
theorem dX5_dual_127 : decode cX5_dual 127 = .ok (.aload 9, 2) := by decide +kernel
theorem dX5_dual_129 : decode cX5_dual 129 = .ok (.getfield 151, 3) := by decide +kernel
theorem dX5_dual_132 : decode cX5_dual 132 = .ok (.iload 10, 2) := by decide +kernel
theorem dX5_dual_134 : decode cX5_dual 134 = .ok (.aaload, 1) := by decide +kernel
theorem dX5_dual_135 : decode cX5_dual 135 = .ok (.iload 8, 2) := by decide +kernel
theorem dX5_dual_137 : decode cX5_dual 137 = .ok (.iload 10, 2) := by decide +kernel
theorem dX5_dual_139 : decode cX5_dual 139 = .ok (.iadd, 1) := by decide +kernel
theorem dX5_dual_140 : decode cX5_dual 140 = .ok (.iconst 2, 1) := by decide +kernel
theorem dX5_dual_141 : decode cX5_dual 141 = .ok (.irem, 1) := by decide +kernel
theorem dX5_dual_142 : decode cX5_dual 142 = .ok (.ifCond .ne 8, 3) := by decide +kernel
theorem dX5_dual_145 : decode cX5_dual 145 = .ok (.lload 13, 2) := by decide +kernel
theorem dX5_dual_147 : decode cX5_dual 147 = .ok (.goto 6, 3) := by decide +kernel
theorem dX5_dual_150 : decode cX5_dual 150 = .ok (.lload 13, 2) := by decide +kernel
theorem dX5_dual_152 : decode cX5_dual 152 = .ok (.lneg, 1) := by decide +kernel
theorem dX5_dual_153 : decode cX5_dual 153 = .ok (.invokevirtual 159, 3) := by decide +kernel
theorem dX5_dual_156 : decode cX5_dual 156 = .ok (.iinc 10 1, 3) := by decide +kernel
theorem dX5_dual_159 : decode cX5_dual 159 = .ok (.goto (-67), 3) := by decide +kernel
theorem dX5_dual_162 : decode cX5_dual 162 = .ok (.aload_n 0, 1) := by decide +kernel
theorem dX5_dual_163 : decode cX5_dual 163 = .ok (.getfield 35, 3) := by decide +kernel
theorem dX5_dual_166 : decode cX5_dual 166 = .ok (.invokevirtual 200, 3) := by decide +kernel
theorem dX5_dual_169 : decode cX5_dual 169 = .ok (.iinc 8 1, 3) := by decide +kernel
theorem dX5_dual_172 : decode cX5_dual 172 = .ok (.goto (-106), 3) := by decide +kernel
theorem dX5_dual_175 : decode cX5_dual 175 = .ok (.aload_n 0, 1) := by decide +kernel
theorem dX5_dual_176 : decode cX5_dual 176 = .ok (.lload 6, 2) := by decide +kernel
theorem dX5_dual_178 : decode cX5_dual 178 = .ok (.lconst 0, 1) := by decide +kernel
theorem dX5_dual_179 : decode cX5_dual 179 = .ok (.lcmp, 1) := by decide +kernel
theorem dX5_dual_180 : decode cX5_dual 180 = .ok (.ifCond .le 14, 3) := by decide +kernel
theorem dX5_dual_183 : decode cX5_dual 183 = .ok (.lload 4, 2) := by decide +kernel
theorem dX5_dual_185 : decode cX5_dual 185 = .ok (.invokestatic 224, 3) := by decide +kernel
theorem dX5_dual_188 : decode cX5_dual 188 = .ok (.lload 6, 2) := by decide +kernel
theorem dX5_dual_190 : decode cX5_dual 190 = .ok (.ldiv, 1) := by decide +kernel
theorem dX5_dual_191 : decode cX5_dual 191 = .ok (.goto 4, 3) := by decide +kernel
theorem dX5_dual_194 : decode cX5_dual 194 = .ok (.lconst 0, 1) := by decide +kernel
theorem dX5_dual_195 : decode cX5_dual 195 = .ok (.invokevirtual 230, 3) := by decide +kernel
theorem dX5_dual_198 : decode cX5_dual 198 = .ok (.iload_n 3, 1) := by decide +kernel
theorem dX5_dual_199 : decode cX5_dual 199 = .ok (.iconst 1, 1) := by decide +kernel
theorem dX5_dual_200 : decode cX5_dual 200 = .ok (.iadd, 1) := by decide +kernel
theorem dX5_dual_201 : decode cX5_dual 201 = .ok (.ireturn, 1) := by decide +kernel
set_option maxRecDepth 20000 in
theorem du_in (d : Nat) {g : GX} {b : Nat} {X : Nat → Prop} {S : TSt} {A : ASt} {x : Nat} {wt gg : Int} {QR : Option Value → TSt → ASt → Prop} (hx : x < 12) (hr : 0 < S.r x) (hsq : S.r x = S.c x) (hg : 0 < gg ∧ gg ≤ 24000000000000) (hdv : ∀ i j, i < S.c x → j < S.c x → gg ∣ mnr S x i j) {i hh : Nat} {V1 : AH} {Z1 : Nat → Int} {ld : Nat → Int} {ρ : Nat → Nat} (hi : i < S.c x) (hG1 : GD g V1 (b + 159 + 1) (GWd b) hh (S.c x) ld ρ) (hhh : hh < 6) (hKK : ∀ {V : AH} {sz : Nat} {Z : Nat → Int} {P L : Nat → Nat}, WG g (wsB b) (SAB b X) V sz Z P L → CX g b X V Z S A → (∀ a, SAB b X a → a ≠ b + 646 → V a = V1 a) → RU Z1 Z ((GWd b).ga (ρ hh)) 0 (S.c x) (DM S x gg i) E0 → AW g mX5_dual (d + 9) 162 [(8, .int (iZ (i : Int))), (3, .int (iZ (S.c x : Nat))), (4, .long (jZ wt)), (6, .long (jZ gg)), (0, .ref b), (2, .ref (b + 647 + 3 * x))] [] V sz (CE g b X V sz L QR)) : ∀ (f j : Nat), j + f = S.c x → ∀ {V : AH} {sz : Nat} {Z : Nat → Int} {P L : Nat → Nat}, WG g (wsB b) (SAB b X) V sz Z P L → CX g b X V Z S A → (∀ a, SAB b X a → a ≠ b + 646 → V a = V1 a) → RU Z1 Z ((GWd b).ga (ρ hh)) 0 j (DM S x gg i) E0 → AW g mX5_dual (d + 9) 92 [(10, .int (iZ (j : Int))), (9, .ref (ρ hh)), (8, .int (iZ (i : Int))), (3, .int (iZ (S.c x : Nat))), (4, .long (jZ wt)), (6, .long (jZ gg)), (0, .ref b), (2, .ref (b + 647 + 3 * x))] [] V sz (CE g b X V sz L QR)
  | 0, j, hf, V, sz, Z, P, L, hw0, h, hV, hru => by
    obtain rfl : j = S.c x := by omega
    obtain ⟨⟨hb, -⟩, hTb, hOk, -⟩ := id h
    obtain ⟨q1, q3, -, qx, -⟩ := hOk x hx
    obtain ⟨x1, x2, x3⟩ := id (hTb x hx)
    refine aw_iload dX5_dual_92 (by rfl) ?_
    refine aw_iload_n dX5_dual_94 (by rfl) ?_
    refine aw_icmp_geZ (tgt := 162) dX5_dual_95 (by decide) (by omega) (by omega) (fun hc_95 => ?_) (fun hc_95 => ?_)
    · refine aw_pk [8, 3, 4, 6, 0, 2] (by rfl) ?_
      exact hKK hw0 h hV hru
    · exact absurd hc_95 (by omega)
  | f + 1, j, hf, V, sz, Z, P, L, hw0, h, hV, hru => by
    have IH := fun j hj => @du_in d g b X S A x wt gg QR hx hr hsq hg hdv i hh V1 Z1 ld ρ hi hG1 hhh hKK f j hj
    obtain ⟨⟨hb, -⟩, hTb, hOk, -⟩ := id h
    obtain ⟨q1, q3, -, qx, -⟩ := hOk x hx
    obtain ⟨x1, x2, x3⟩ := id (hTb x hx)
    refine aw_iload dX5_dual_92 (by rfl) ?_
    refine aw_iload_n dX5_dual_94 (by rfl) ?_
    refine aw_icmp_geZ (tgt := 162) dX5_dual_95 (by decide) (by omega) (by omega) (fun hc_95 => ?_) (fun hc_95 => ?_)
    · exact absurd hc_95 (by omega)
    · refine aw_aload_n dX5_dual_98 (by rfl) (Or.inr ⟨_, rfl⟩) ?_
      refine aw_aload_n dX5_dual_99 (by rfl) (Or.inr ⟨_, rfl⟩) ?_
      refine aw_iload dX5_dual_100 (by rfl) ?_
      refine aw_iload dX5_dual_102 (by rfl) ?_
      refine aw_callv vX5_155 dX5_dual_104 hb (t_minorM (d + 6) h hx hr (r := i) (c := j) hi (by omega)) (by rfl) (by rfl) (by omega) (Nat.le_of_ble_eq_true rfl) ?_
      rintro _ _ _ _ _ ⟨F1, rfl, rfl, rfl, rfl, rfl⟩ -
      refine q0 ?_
      refine WE.stp0 (WSE.sto hw0 (sab_t (show b + 645 ≤ b + 646 ∧ b + 646 < b + 683 by omega)) (⟨by omega, by omega⟩ : EB b (b + 646))) ?_
      have hw1 := hw0.sto (e := aJz g 32 F1) (sab_t (b := b) (X := X) (show b + 645 ≤ b + 646 ∧ b + 646 < b + 683 by omega))
      have h1 := h.mw (F := F1)
      have hmr := mnr_R q3 qx (i := i) (j := j) hi (by omega)
      have hdm := dm_val hg.1 (hdv i j hi (by omega))
      have hda := dm_ab hg.1 (hdv i j hi (by omega)) hmr
      have hmr' := hmr
      unfold ab at hmr' hda
      have htd := tdiv_ab (a := mnr S x i j) hg.1
      unfold ab at htd
      have hV' : ∀ a, SAB b X a → a ≠ b + 646 → AHu V (b + 646) (aJz g 32 F1) a = V1 a := fun a ha hne => (AHu_ne hne).trans (hV a ha hne)
      have hG2 : GD g (AHu V (b + 646) (aJz g 32 F1)) (b + 159 + 1) (GWd b) hh (S.c x) ld ρ := hG1.kept2 (fun a ha => hV' a (sab_gW ha).1 (by have := (sab_gW (X := X) ha).2; omega))
      have hRh := hG2.2.2.2.2.1 hh (show hh < 11 by omega)
      obtain ⟨rh1, rh2, -⟩ := hG2.2.2.2.1 _ hRh
      have rh2 : AHu V (b + 646) (aJz g 32 F1) ((GWd b).ka (ρ hh)) = some (aQ g 5 10 (fun j => some ((GWd b).ga (ρ hh) j))) := rh2
      have hct := ((gst_W b X).2.2.2.2.1 _ hRh j (show j < 10 by omega)).1.1
      obtain ⟨nt, Ft, hWt⟩ := hw1.raw hct
      have hcin : ∀ e, e < j → (GWd b).ga (ρ hh) e ≠ (GWd b).ga (ρ hh) j := fun e he q => by have := ((gst_W b X).2.2.2.2.2.1 _ _ _ _ hRh hRh (show e < 10 by omega) (show j < 10 by omega) q).2; omega
      refine aw_lstore dX5_dual_107 (by decide) ?_
      refine aw_lload dX5_dual_109 (by rfl) ?_
      refine aw_lconstZ (z := 0) dX5_dual_111 (by decide) ?_
      refine aw_lcmpZ dX5_dual_112 (by omega) (by omega) ?_
      refine aw_if_leZ (tgt := 124) dX5_dual_113 (by decide) (by unfold cmpZ; split <;> (try split) <;> omega) (fun hc_113 => ?_) (fun hc_113 => ?_)
      · have hcm := cmpZ_le.mp hc_113
        exact absurd hcm (by omega)
      · refine aw_lload dX5_dual_116 (by rfl) ?_
        refine aw_lload dX5_dual_118 (by rfl) ?_
        refine aw_ldivZ dX5_dual_120 (show R64 (mnr S x i j) from (by omega)) (by omega) (by omega) (by omega) ?_
        refine aw_goto (tgt := 125) dX5_dual_121 (by decide) ?_
        refine aw_lstore dX5_dual_125 (by decide) ?_
        refine aw_aload dX5_dual_127 (by rfl) (Or.inr ⟨_, rfl⟩) ?_
        refine aw_get fX5_151 dX5_dual_129 rh1 (by rfl) ?_
        refine aw_iload dX5_dual_132 (by rfl) ?_
        refine aw_aaldZ (t0 := 5) (j) (by rfl) dX5_dual_134 rh2 (by omega) (by omega) (by omega) ?_
        refine aw_iload dX5_dual_135 (by rfl) ?_
        refine aw_iload dX5_dual_137 (by rfl) ?_
        refine aw_iaddZ dX5_dual_139 ?_
        refine aw_iconstZ dX5_dual_140 ?_
        rw [show ((i : Int) + (j : Int)) = ((i + j : Nat) : Int) by omega]
        refine aw_iremZ dX5_dual_141 (by omega) (by omega) (by omega) ?_
        refine aw_topi (y := (((i + j) % 2 : Nat) : Int)) (by rfl) ?_
        refine aw_if_neZ (tgt := 150) dX5_dual_142 (by decide) (by omega) (fun hc_142 => ?_) (fun hc_142 => ?_)
        · refine aw_lload dX5_dual_150 (by rfl) ?_
          refine aw_lnegZ dX5_dual_152 ?_
          refine aw_topl (y := DM S x gg i j) (by rw [hdm]; first | (rw [if_pos (by omega)]; done) | (rw [if_neg (by omega)]; done)) ?_
          refine aw_callv vX5_159 dX5_dual_153 hWt.1 (w_put (d + 6) (z := DM S x gg i j) hw1 hct (by omega)) (by rfl) (by rfl) (by omega) (Nat.le_of_ble_eq_true rfl) ?_
          rintro _ V2 sz2 mc2 ms2 ⟨rfl, P2, L2, hs2⟩ -
          refine WE.stp (WSE.of hs2) ?_
          have h2 := h1.zs (V' := V2) (Z' := upF Z ((GWd b).ga (ρ hh) j) (DM S x gg i j)) (fun a ha => hs2.2.2.1 a ha) (fun q hq => upF_ne _ _ (by have := am_W hG2 (i := hh) (j := j) (by omega) (by omega); omega))
          refine aw_iincZ dX5_dual_156 (by rfl) (by decide) ?_
          refine aw_goto (tgt := 92) dX5_dual_159 (by decide) ?_
          rw [show ((j : Int) + 1) = ((j + 1 : Nat) : Int) by omega]
          refine aw_pk [10, 9, 8, 3, 4, 6, 0, 2] (by rfl) ?_
          exact IH (j + 1) (by omega) hs2.1 h2 (fun a ha hne => (hs2.2.2.1 a ha).trans (hV' a ha hne)) (hru.up (Nat.zero_le _) hcin rfl)
        · refine aw_lload dX5_dual_145 (by rfl) ?_
          refine aw_goto (tgt := 153) dX5_dual_147 (by decide) ?_
          refine aw_topl (y := DM S x gg i j) (by rw [hdm]; first | (rw [if_pos (by omega)]; done) | (rw [if_neg (by omega)]; done)) ?_
          refine aw_callv vX5_159 dX5_dual_153 hWt.1 (w_put (d + 6) (z := DM S x gg i j) hw1 hct (by omega)) (by rfl) (by rfl) (by omega) (Nat.le_of_ble_eq_true rfl) ?_
          rintro _ V2 sz2 mc2 ms2 ⟨rfl, P2, L2, hs2⟩ -
          refine WE.stp (WSE.of hs2) ?_
          have h2 := h1.zs (V' := V2) (Z' := upF Z ((GWd b).ga (ρ hh) j) (DM S x gg i j)) (fun a ha => hs2.2.2.1 a ha) (fun q hq => upF_ne _ _ (by have := am_W hG2 (i := hh) (j := j) (by omega) (by omega); omega))
          refine aw_iincZ dX5_dual_156 (by rfl) (by decide) ?_
          refine aw_goto (tgt := 92) dX5_dual_159 (by decide) ?_
          rw [show ((j : Int) + 1) = ((j + 1 : Nat) : Int) by omega]
          refine aw_pk [10, 9, 8, 3, 4, 6, 0, 2] (by rfl) ?_
          exact IH (j + 1) (by omega) hs2.1 h2 (fun a ha hne => (hs2.2.2.1 a ha).trans (hV' a ha hne)) (hru.up (Nat.zero_le _) hcin rfl)

/-! ===== the class: order, whole ===== -/
theorem sm_ort : ∀ w : Fin 6, ∀ k : Fin 6, ((2 * (1000 * (KB w 1000 * (1 + KB w 1000)) ^ (k : Nat))).natAbs : Int) < 2147483648 ^ 150 := by decide +kernel
theorem sm_or {w k : Nat} (hw : w < 6) (hk : k < 6) : Sm (2 * (1000 * (KB w 1000 * (1 + KB w 1000)) ^ k)) := sm_ort ⟨w, hw⟩ ⟨k, hk⟩
/-- the asked row and its multiple when k rows have been taken off -/
def OcI (B : Mat) (h w : Nat) (l : Nat → Nat) (bb : Nat → Int) (K : Int) (k : Nat) (M : Int) (C : Nat → Int) : Prop := (∃ W : Nat → Int, OrP B h w l bb k M W ∧ (∀ j, j < w → (∀ i, i < k → l i ≤ j) → C j = W j) ∧ ∀ j, j < w → (C j = 0 ↔ W j = 0)) ∧ (∀ j, j < w → ab (C j) ≤ 1000 * (K * (1 + K)) ^ k) ∧ M ≤ K ^ k
theorem OcI.step {B : Mat} {h w k : Nat} {l : Nat → Nat} {bb C C' : Nat → Int} {K M u q : Int} (s : Stair B h w l) (hK1 : 1 ≤ K) (hKb : ∀ i j, i < h → j < w → ab (B i j) ≤ K) (I : OcI B h w l bb K k M C) (hk : k < h) (hu : u = B k (l k) / ((Int.gcd (B k (l k)) (C (l k)) : Nat) : Int)) (hq : q = (u * C (l k)) / B k (l k)) (h1 : ∀ j, l k ≤ j → j < w → C' j = C j * u - q * B k j) (h2 : ∀ j, j < l k → C' j = C j) : OcI B h w l bb K (k + 1) (M * u) C' := by
  obtain ⟨⟨W, hO, hCW, hz⟩, hb, hM⟩ := I
  have hlk := (s.1.1 k hk).1
  have hp := s.2.1 k hk
  have hle : ∀ i, i < k → l i ≤ l k := fun i hi => Nat.le_of_lt (s.1.2 i k hi hk)
  have hc : C (l k) = W (l k) := hCW _ hlk hle
  obtain ⟨g1, g2, -⟩ := gcd_mul (W := C (l k)) hp
  rw [← hu] at g1 g2
  rw [hc] at hu
  have hq' : q = (u * W (l k)) / B k (l k) := by rw [hq, hc]
  have hpK : B k (l k) ≤ K := by have := hKb k _ hk hlk; rw [ab_pos (by omega)] at this; exact this
  have hu1 : ab u ≤ K := by rw [ab_pos (by omega)]; omega
  have hE : 0 < (K * (1 + K)) ^ k := by
    have h3 : 1 * 1 ≤ K * (1 + K) := Int.mul_le_mul hK1 (by omega) (by omega) (by omega)
    have := pw_mono (x := K * (1 + K)) (by omega) (Nat.zero_le k)
    rw [Int.pow_zero] at this
    omega
  refine ⟨⟨fun j => u * W j - q * B k j, hO.step s.1 hk hp hu hq' (fun _ _ => rfl), fun j hj hl => ?_, fun j hj => ?_⟩, fun j hj => ?_, ?_⟩
  · have := hl k (by omega)
    rw [h1 j this hj, hCW j hj (fun i hi => Nat.le_trans (hle i hi) this), Int.mul_comm]
  · by_cases e : l k ≤ j
    · rw [h1 j e hj, hCW j hj (fun i hi => Nat.le_trans (hle i hi) e), Int.mul_comm]
    · rw [h2 j (by omega), hz j hj]
      show W j = 0 ↔ u * W j - q * B k j = 0
      rw [(s.1.1 k hk).2.2 j (by omega), Int.mul_zero, Int.sub_zero]
      exact ⟨fun z => by rw [z, Int.mul_zero], fun z => (Int.mul_eq_zero.mp z).elim (fun z2 => absurd z2 (by omega)) id⟩
  · have hX : 0 ≤ 1000 * (K * (1 + K)) ^ k := by omega
    have e6 : 1000 * (K * (1 + K)) ^ (k + 1) = 1000 * (K * (1 + K)) ^ k * K + 1000 * (K * (1 + K)) ^ k * K * K := by
      rw [Int.pow_succ, ← Int.mul_assoc]
      generalize 1000 * (K * (1 + K)) ^ k = T
      rw [Int.mul_add, Int.mul_one, Int.mul_add, Int.mul_assoc]
    rw [e6]
    generalize 1000 * (K * (1 + K)) ^ k = T at *
    have e1 := ab_mulle (hb j hj) hu1 hX
    by_cases e : l k ≤ j
    · rw [h1 j e hj]
      have e2 := ab_mulle hu1 (hb _ hlk) (by omega)
      have e3 := ab_div (a := u * C (l k)) hp
      rw [← hq] at e3
      have e4 := ab_mulle (Int.le_trans e3 e2) (hKb k j hk hj) (Int.mul_nonneg (by omega) hX)
      rw [Int.mul_comm K T] at e4
      have e5 := ab_sub (C j * u) (q * B k j)
      omega
    · rw [h2 j (by omega)]
      have e2 : T * 1 ≤ T * K := Int.mul_le_mul_of_nonneg_left hK1 hX
      have e3 : 0 ≤ T * K * K := Int.mul_nonneg (by omega) (by omega)
      have := hb j hj
      omega
  · rw [Int.pow_succ]
    exact Int.mul_le_mul hM (by omega) (by omega) (Int.pow_nonneg (by omega))
abbrev mX5_order : MI := (yX5_order, cX5_order, 8, (some FieldType.int), noX)
theorem dX5_order_0 : decode cX5_order 0 = .ok (.aload_n 0, 1) := by decide +kernel
theorem dX5_order_1 : decode cX5_order 1 = .ok (.iload_n 1, 1) := by decide +kernel
theorem dX5_order_2 : decode cX5_order 2 = .ok (.invokevirtual 72, 3) := by decide +kernel
theorem dX5_order_5 : decode cX5_order 5 = .ok (.astore 4, 2) := by decide +kernel
theorem dX5_order_7 : decode cX5_order 7 = .ok (.aload_n 0, 1) := by decide +kernel
theorem dX5_order_8 : decode cX5_order 8 = .ok (.iload_n 2, 1) := by decide +kernel
theorem dX5_order_9 : decode cX5_order 9 = .ok (.invokevirtual 72, 3) := by decide +kernel
theorem dX5_order_12 : decode cX5_order 12 = .ok (.astore 5, 2) := by decide +kernel
theorem dX5_order_14 : decode cX5_order 14 = .ok (.aload 4, 2) := by decide +kernel
theorem dX5_order_16 : decode cX5_order 16 = .ok (.aload 5, 2) := by decide +kernel
theorem dX5_order_18 : decode cX5_order 18 = .ok (.invokestatic 137, 3) := by decide +kernel
theorem dX5_order_21 : decode cX5_order 21 = .ok (.ifCond .eq 12, 3) := by decide +kernel
theorem dX5_order_24 : decode cX5_order 24 = .ok (.aload 5, 2) := by decide +kernel
theorem dX5_order_26 : decode cX5_order 26 = .ok (.iload_n 3, 1) := by decide +kernel
theorem dX5_order_27 : decode cX5_order 27 = .ok (.invokevirtual 76, 3) := by decide +kernel
theorem dX5_order_30 : decode cX5_order 30 = .ok (.ifCond .ne 5, 3) := by decide +kernel
theorem dX5_order_33 : decode cX5_order 33 = .ok (.iconst (-1), 1) := by decide +kernel
theorem dX5_order_34 : decode cX5_order 34 = .ok (.ireturn, 1) := by decide +kernel
theorem dX5_order_35 : decode cX5_order 35 = .ok (.aload_n 0, 1) := by decide +kernel
theorem dX5_order_36 : decode cX5_order 36 = .ok (.getfield 35, 3) := by decide +kernel
theorem dX5_order_39 : decode cX5_order 39 = .ok (.aload 4, 2) := by decide +kernel
theorem dX5_order_41 : decode cX5_order 41 = .ok (.invokevirtual 103, 3) := by decide +kernel
theorem dX5_order_44 : decode cX5_order 44 = .ok (.aload_n 0, 1) := by decide +kernel
theorem dX5_order_45 : decode cX5_order 45 = .ok (.getfield 49, 3) := by decide +kernel
theorem dX5_order_48 : decode cX5_order 48 = .ok (.aload 5, 2) := by decide +kernel
theorem dX5_order_50 : decode cX5_order 50 = .ok (.iload_n 3, 1) := by decide +kernel
theorem dX5_order_51 : decode cX5_order 51 = .ok (.iconst 1, 1) := by decide +kernel
theorem dX5_order_52 : decode cX5_order 52 = .ok (.invokevirtual 144, 3) := by decide +kernel
theorem dX5_order_55 : decode cX5_order 55 = .ok (.aload_n 0, 1) := by decide +kernel
theorem dX5_order_56 : decode cX5_order 56 = .ok (.getfield 53, 3) := by decide +kernel
theorem dX5_order_59 : decode cX5_order 59 = .ok (.getfield 151, 3) := by decide +kernel
theorem dX5_order_62 : decode cX5_order 62 = .ok (.iconst 0, 1) := by decide +kernel
theorem dX5_order_63 : decode cX5_order 63 = .ok (.aaload, 1) := by decide +kernel
theorem dX5_order_64 : decode cX5_order 64 = .ok (.astore 6, 2) := by decide +kernel
theorem dX5_order_66 : decode cX5_order 66 = .ok (.aload 6, 2) := by decide +kernel
theorem dX5_order_68 : decode cX5_order 68 = .ok (.lconst 1, 1) := by decide +kernel
theorem dX5_order_69 : decode cX5_order 69 = .ok (.invokevirtual 159, 3) := by decide +kernel
theorem dX5_order_72 : decode cX5_order 72 = .ok (.iconst 0, 1) := by decide +kernel
theorem dX5_order_73 : decode cX5_order 73 = .ok (.istore 7, 2) := by decide +kernel
theorem dX5_order_75 : decode cX5_order 75 = .ok (.iload 7, 2) := by decide +kernel
theorem dX5_order_77 : decode cX5_order 77 = .ok (.aload_n 0, 1) := by decide +kernel
theorem dX5_order_78 : decode cX5_order 78 = .ok (.getfield 35, 3) := by decide +kernel
theorem dX5_order_81 : decode cX5_order 81 = .ok (.getfield 111, 3) := by decide +kernel
theorem dX5_order_84 : decode cX5_order 84 = .ok (.if_icmp .ge 21, 3) := by decide +kernel
theorem dX5_order_87 : decode cX5_order 87 = .ok (.aload_n 0, 1) := by decide +kernel
theorem dX5_order_88 : decode cX5_order 88 = .ok (.aload_n 0, 1) := by decide +kernel
theorem dX5_order_89 : decode cX5_order 89 = .ok (.getfield 35, 3) := by decide +kernel
theorem dX5_order_92 : decode cX5_order 92 = .ok (.iload 7, 2) := by decide +kernel
theorem dX5_order_94 : decode cX5_order 94 = .ok (.aload 6, 2) := by decide +kernel
theorem dX5_order_96 : decode cX5_order 96 = .ok (.invokevirtual 196, 3) := by decide +kernel
theorem dX5_order_99 : decode cX5_order 99 = .ok (.iinc 7 1, 3) := by decide +kernel
theorem dX5_order_102 : decode cX5_order 102 = .ok (.goto (-27), 3) := by decide +kernel
theorem dX5_order_105 : decode cX5_order 105 = .ok (.aload_n 0, 1) := by decide +kernel
theorem dX5_order_106 : decode cX5_order 106 = .ok (.getfield 49, 3) := by decide +kernel
theorem dX5_order_109 : decode cX5_order 109 = .ok (.aload_n 0, 1) := by decide +kernel
theorem dX5_order_110 : decode cX5_order 110 = .ok (.getfield 35, 3) := by decide +kernel
theorem dX5_order_113 : decode cX5_order 113 = .ok (.getfield 114, 3) := by decide +kernel
theorem dX5_order_116 : decode cX5_order 116 = .ok (.invokevirtual 189, 3) := by decide +kernel
theorem dX5_order_119 : decode cX5_order 119 = .ok (.aload_n 0, 1) := by decide +kernel
theorem dX5_order_120 : decode cX5_order 120 = .ok (.getfield 35, 3) := by decide +kernel
theorem dX5_order_123 : decode cX5_order 123 = .ok (.getfield 114, 3) := by decide +kernel
theorem dX5_order_126 : decode cX5_order 126 = .ok (.if_icmp .ge 5, 3) := by decide +kernel
theorem dX5_order_129 : decode cX5_order 129 = .ok (.iconst 0, 1) := by decide +kernel
theorem dX5_order_130 : decode cX5_order 130 = .ok (.ireturn, 1) := by decide +kernel
theorem dX5_order_131 : decode cX5_order 131 = .ok (.aload_n 0, 1) := by decide +kernel
theorem dX5_order_132 : decode cX5_order 132 = .ok (.getfield 27, 3) := by decide +kernel
theorem dX5_order_135 : decode cX5_order 135 = .ok (.getfield 141, 3) := by decide +kernel
theorem dX5_order_138 : decode cX5_order 138 = .ok (.iconst 0, 1) := by decide +kernel
theorem dX5_order_139 : decode cX5_order 139 = .ok (.aaload, 1) := by decide +kernel
theorem dX5_order_140 : decode cX5_order 140 = .ok (.getfield 151, 3) := by decide +kernel
theorem dX5_order_143 : decode cX5_order 143 = .ok (.iconst 0, 1) := by decide +kernel
theorem dX5_order_144 : decode cX5_order 144 = .ok (.aaload, 1) := by decide +kernel
theorem dX5_order_145 : decode cX5_order 145 = .ok (.aload 6, 2) := by decide +kernel
theorem dX5_order_147 : decode cX5_order 147 = .ok (.invokevirtual 192, 3) := by decide +kernel
theorem dX5_order_150 : decode cX5_order 150 = .ok (.aload_n 0, 1) := by decide +kernel
theorem dX5_order_151 : decode cX5_order 151 = .ok (.iconst 1, 1) := by decide +kernel
theorem dX5_order_152 : decode cX5_order 152 = .ok (.iconst 1, 1) := by decide +kernel
theorem dX5_order_153 : decode cX5_order 153 = .ok (.invokevirtual 148, 3) := by decide +kernel
theorem dX5_order_156 : decode cX5_order 156 = .ok (.iconst 1, 1) := by decide +kernel
theorem dX5_order_157 : decode cX5_order 157 = .ok (.ireturn, 1) := by decide +kernel
set_option maxRecDepth 20000 in
theorem od_75 (d : Nat) {g : GX} {b : Nat} {X : Nat → Prop} {S : TSt} {A : ASt} {V0 : AH} {Z0 : Nat → Int} {x h1 : Nat} {ld : Nat → Int} {l ρ : Nat → Nat} {bb : Nat → Int} {QR : Option Value → TSt → ASt → Prop} (hx : x < 12) (hg0 : GSp g b V0 Z0 (GWd b) (TM (S.N x)) (S.r x) (S.c x) h1 ld l ρ) (hKK : ∀ {V : AH} {sz : Nat} {Z : Nat → Int} {P L : Nat → Nat}, WG g (wsB b) (SAB b X) V sz Z P L → CX g b X V Z S A → GSp g b V Z (GWd b) (TM (S.N x)) (S.r x) (S.c x) h1 ld l ρ → (∀ i j, i < h1 → j < S.c x → AM (GWd b) Z ρ i j = AM (GWd b) Z0 ρ i j) → OcI (AM (GWd b) Z0 ρ) h1 (S.c x) l bb (KB (S.c x) 1000) h1 (Z (b + 635)) (fun j => Z (b + 613 + 2 * j)) → AW g mX5_order (d + 8) 105 [(7, .int (iZ h1)), (6, .ref (b + 635)), (0, .ref b)] [] V sz (CE g b X V sz L QR)) : ∀ (f k : Nat), k + f = h1 → ∀ {V : AH} {sz : Nat} {Z : Nat → Int} {P L : Nat → Nat}, WG g (wsB b) (SAB b X) V sz Z P L → CX g b X V Z S A → GSp g b V Z (GWd b) (TM (S.N x)) (S.r x) (S.c x) h1 ld l ρ → (∀ i j, i < h1 → j < S.c x → AM (GWd b) Z ρ i j = AM (GWd b) Z0 ρ i j) → OcI (AM (GWd b) Z0 ρ) h1 (S.c x) l bb (KB (S.c x) 1000) k (Z (b + 635)) (fun j => Z (b + 613 + 2 * j)) → AW g mX5_order (d + 8) 75 [(7, .int (iZ k)), (6, .ref (b + 635)), (0, .ref b)] [] V sz (CE g b X V sz L QR)
  | 0, k, hf, V, sz, Z, P, L, hw0, h, hg, hA, hI => by
    obtain rfl : h1 = k := by omega
    have hb := h.1.1
    obtain ⟨q1, q3, -⟩ := h.2.2.1 x hx
    have hle := hg.2.2.1.1.le_w
    have wgd : V (b + 159) = some (grO (b + 159 + 21) (b + 159 + 20) (b + 159 + 1) (b + 159 + 16) (b + 159 + 18) h1 (S.c x)) := hg.1.1
    refine aw_iload dX5_order_75 (by rfl) ?_
    refine aw_aload_n dX5_order_77 (by rfl) (Or.inr ⟨_, rfl⟩) ?_
    refine aw_get fX5_35 dX5_order_78 hb (by rfl) ?_
    refine aw_get fX5_111 dX5_order_81 wgd (by rfl) ?_
    refine aw_icmp_geZ (tgt := 105) dX5_order_84 (by decide) (by omega) (by omega) (fun hc_84 => ?_) (fun hc_84 => ?_)
    · exact hKK hw0 h hg hA hI
    · exact absurd hc_84 (by omega)
  | f + 1, k, hf, V, sz, Z, P, L, hw0, h, hg, hA, hI => by
    have IH := fun k hk => @od_75 d g b X S A V0 Z0 x h1 ld l ρ bb QR hx hg0 hKK f k hk
    have hb := h.1.1
    obtain ⟨q1, q3, -⟩ := h.2.2.1 x hx
    have hle := hg.2.2.1.1.le_w
    have wgd : V (b + 159) = some (grO (b + 159 + 21) (b + 159 + 20) (b + 159 + 1) (b + 159 + 16) (b + 159 + 18) h1 (S.c x)) := hg.1.1
    have hK1 : 1 ≤ KB (S.c x) 1000 := KB.one (by omega)
    have hKb := (hg.sm (by omega) (h.2.2.1.tb hx)).1
    have hKb0 := (hg0.sm (by omega) (h.2.2.1.tb hx)).1
    have hlw := (hg.2.2.1.1.1 k (by omega)).1
    have hX1 : 1 ≤ 1000 * (KB (S.c x) 1000 * (1 + KB (S.c x) 1000)) ^ k := by
      have h3 : 1 * 1 ≤ KB (S.c x) 1000 * (1 + KB (S.c x) 1000) := Int.mul_le_mul hK1 (by omega) (by omega) (by omega)
      have := pw_mono (x := KB (S.c x) 1000 * (1 + KB (S.c x) 1000)) (by omega) (Nat.zero_le k)
      rw [Int.pow_zero] at this
      omega
    have hY1 : 1 ≤ KB (S.c x) 1000 ^ k := by
      have := pw_mono (x := KB (S.c x) 1000) hK1 (Nat.zero_le k)
      rwa [Int.pow_zero] at this
    have hSC : Sm (2 * (1000 * (KB (S.c x) 1000 * (1 + KB (S.c x) 1000)) ^ k * (KB (S.c x) 1000 * (1 + KB (S.c x) 1000)))) := by
      have := sm_or (w := S.c x) (k := k + 1) (by omega) (by omega)
      rwa [Int.pow_succ, ← Int.mul_assoc 1000] at this
    have hSY : Sm (KB (S.c x) 1000 ^ k * KB (S.c x) 1000) := by
      rw [← Int.pow_succ]
      exact sm_pwt ⟨S.c x, by omega⟩ ⟨k + 1, by omega⟩
    have hM0 : 0 < Z (b + 635) := hI.1.choose_spec.1.1
    refine aw_iload dX5_order_75 (by rfl) ?_
    refine aw_aload_n dX5_order_77 (by rfl) (Or.inr ⟨_, rfl⟩) ?_
    refine aw_get fX5_35 dX5_order_78 hb (by rfl) ?_
    refine aw_get fX5_111 dX5_order_81 wgd (by rfl) ?_
    refine aw_icmp_geZ (tgt := 105) dX5_order_84 (by decide) (by omega) (by omega) (fun hc_84 => ?_) (fun hc_84 => ?_)
    · exact absurd hc_84 (by omega)
    · refine aw_aload_n dX5_order_87 (by rfl) (Or.inr ⟨_, rfl⟩) ?_
      refine aw_aload_n dX5_order_88 (by rfl) (Or.inr ⟨_, rfl⟩) ?_
      refine aw_get fX5_35 dX5_order_89 hb (by rfl) ?_
      refine aw_iload dX5_order_92 (by rfl) ?_
      refine aw_aload dX5_order_94 (by rfl) (Or.inr ⟨_, rfl⟩) ?_
      refine aw_callv vX5_196 dX5_order_96 hb (t_stretchTo d (k := k) (C := 1000 * (KB (S.c x) 1000 * (1 + KB (S.c x) 1000)) ^ k) (Y := KB (S.c x) 1000 ^ k) (K := KB (S.c x) 1000) h hg q3 (by omega) hK1 hKb hX1 hI.2.1 hY1 (by rw [ab_pos (by omega)]; exact hI.2.2) hSC hSY hw0) (by rfl) (by rfl) (by omega) (Nat.le_of_ble_eq_true rfl) ?_
      rintro _ V1 sz1 mc1 ms1 ⟨Z1, P1, L1, ⟨rfl, hk1, hE⟩, hs1⟩ -
      refine WE.stp hs1 ?_
      refine aw_iincZ dX5_order_99 (by rfl) (by decide) ?_
      refine aw_goto (tgt := 75) dX5_order_102 (by decide) ?_
      have ho : ∀ q, (q < b + 9 ∨ b + 17 ≤ q) → q < b + 613 → Z1 q = Z q := fun q h1 h2 => hE.2.2 q h1 (by omega) (by omega) (by omega) (fun j _ _ => by omega)
      have hA1 : ∀ i j, i < h1 → j < S.c x → AM (GWd b) Z1 ρ i j = AM (GWd b) Z ρ i j := fun i j hi hj => by
        have := am_W hg.1 (i := i) (j := j) (by omega) (by omega)
        exact ho _ (by omega) (by omega)
      rw [show ((k : Int) + 1) = ((k + 1 : Nat) : Int) by omega]
      refine aw_pk [7, 6, 0] (by rfl) ?_
      refine IH (k + 1) (by omega) hs1.1 (h.zs2 hk1 (fun q h1 h2 => ho q h1 (by omega))) (hg.keep (hg.1.kept2 (fun a ha => hk1 a (sab_gW ha).1)) hA1) (fun i j hi hj => (hA1 i j hi hj).trans (hA i j hi hj)) ?_
      rw [hE.1]
      refine OcI.step (q := (AM (GWd b) Z ρ k (l k) / ((Int.gcd (AM (GWd b) Z ρ k (l k)) (Z (b + 613 + 2 * l k)) : Nat) : Int) * Z (b + 613 + 2 * l k)) / AM (GWd b) Z ρ k (l k)) hg0.2.2.1 hK1 hKb0 hI (by omega) (by rw [hA k _ (by omega) hlw]) (by rw [hA k _ (by omega) hlw]) (fun j h1 h2 => by rw [← hA k j (by omega) h2]; exact hE.2.1 j h1 h2) (fun j hj => hE.2.2 _ (by omega) (by omega) (by omega) (by omega) (fun i _ _ => by omega))
set_option maxRecDepth 20000 in
theorem c_order {g : GX} {b : Nat} {X : Nat → Prop} {V : AH} {sz : Nat} {Z : Nat → Int} {S : TSt} {A : ASt} (d : Nat) {t u i : Int} {P L : Nat → Nat} (hw0 : WG g (wsB b) (SAB b X) V sz Z P L) (h : CX g b X V Z S A) (ht : R32 t) (hu : R32 u) (hi : R32 i) : AMet g mX5_order (d + 8) [.ref b, .int (iZ t), .int (iZ u), .int (iZ i)] V sz (CE g b X V sz L (AskR S A t u i (OrdR S A))) := by
  obtain ⟨⟨hb, hb1⟩, hTb, hOk, -⟩ := id h
  obtain ⟨v, hv⟩ := FindV.ex S b t
  obtain ⟨v2, hv2⟩ := FindV.ex S b u
  rcases id hv with ⟨x, hx, rfl, hrx, rfl⟩ | ⟨hno, rfl⟩
  · rcases id hv2 with ⟨y, hy, rfl, hry, rfl⟩ | ⟨hno2, rfl⟩
    · have hy1 := (hTb y hy).1
      by_cases hcc : S.c x = S.c y
      · by_cases hir : 0 ≤ i ∧ i < (S.r y : Int)
        · obtain ⟨k, rfl⟩ : ∃ k : Nat, i = (k : Int) := ⟨i.toNat, by omega⟩
          have hAsk : AskP S (x : Int) (y : Int) (k : Int) x y k := ⟨hx, hy, rfl, rfl, rfl, hrx, hry, hcc, by omega⟩
          obtain ⟨q1, q3, -⟩ := hOk x hx
          obtain ⟨q2, -, -, qy, -⟩ := hOk y hy
          obtain ⟨h0, w0, ld0, ρ0, hG0⟩ := h.2.2.2.2.2.2.1
          have hgd0 : V (b + 159) = _ := hG0.1
          refine AMet.of rfl rfl (Nat.le_of_ble_eq_true rfl) ?_
          show AW g mX5_order (d + 8) 0 [(0, .ref b), (1, .int (iZ x)), (2, .int (iZ y)), (3, .int (iZ k))] [] V sz _
          refine aw_aload_n dX5_order_0 (by rfl) (Or.inr ⟨_, rfl⟩) ?_
          refine aw_iload_n dX5_order_1 (by rfl) ?_
          refine aw_callv vX5_72 dX5_order_2 hb (t_find (d + 6) h ht hv) (by rfl) (by rfl) (by omega) (Nat.le_of_ble_eq_true rfl) ?_
          rintro _ _ _ _ _ ⟨rfl, rfl, rfl, rfl, rfl⟩ -
          refine q0 ?_
          refine aw_astore dX5_order_5 (by decide) (Or.inr ⟨_, rfl⟩) ?_
          refine aw_aload_n dX5_order_7 (by rfl) (Or.inr ⟨_, rfl⟩) ?_
          refine aw_iload_n dX5_order_8 (by rfl) ?_
          refine aw_callv vX5_72 dX5_order_9 hb (t_find (d + 6) h hu hv2) (by rfl) (by rfl) (by omega) (Nat.le_of_ble_eq_true rfl) ?_
          rintro _ _ _ _ _ ⟨rfl, rfl, rfl, rfl, rfl⟩ -
          refine q0 ?_
          refine aw_astore dX5_order_12 (by decide) (Or.inr ⟨_, rfl⟩) ?_
          refine aw_aload dX5_order_14 (by rfl) (Or.inr ⟨_, rfl⟩) ?_
          refine aw_aload dX5_order_16 (by rfl) (Or.inr ⟨_, rfl⟩) ?_
          refine aw_calls sX5_137 dX5_order_18 (t_areAlike (d + 6 + 1) (q := 1) h hv hv2 (Or.inl ⟨rfl, x, y, hx, hy, rfl, rfl, hrx, hry, hcc⟩)) (by rfl) (by rfl) (by omega) (Nat.le_of_ble_eq_true rfl) ?_
          rintro _ _ _ _ _ ⟨rfl, rfl, rfl, rfl, rfl⟩ -
          refine q0 ?_
          refine aw_if_eqZ (tgt := 33) dX5_order_21 (by decide) (by decide) (fun hc_21 => ?_) (fun hc_21 => ?_)
          · exact absurd hc_21 (by decide)
          · refine aw_aload dX5_order_24 (by rfl) (Or.inr ⟨_, rfl⟩) ?_
            refine aw_iload_n dX5_order_26 (by rfl) ?_
            refine aw_callv vX5_76 dX5_order_27 hy1 (t_hasRow g (d + 6 + 1) (i := (k : Int)) (hTb y hy) (by have := (hOk y hy).1; omega) hi) (by rfl) (by rfl) (by omega) (Nat.le_of_ble_eq_true rfl) ?_
            rintro _ _ _ _ _ ⟨rfl, rfl, rfl, rfl, rfl⟩ -
            refine q0 ?_
            refine aw_if_neZ (tgt := 35) dX5_order_30 (by decide) (by split <;> omega) (fun hc_30 => ?_) (fun hc_30 => ?_)
            · refine aw_aload_n dX5_order_35 (by rfl) (Or.inr ⟨_, rfl⟩) ?_
              refine aw_get fX5_35 dX5_order_36 hb (by rfl) ?_
              refine aw_aload dX5_order_39 (by rfl) (Or.inr ⟨_, rfl⟩) ?_
              refine aw_callv vX5_103 dX5_order_41 hgd0 (c_reachW d hw0 h hx) (by rfl) (by rfl) (by omega) (Nat.le_of_ble_eq_true rfl) ?_
              rintro _ V1 sz1 mc1 ms1 ⟨Z1, P1, L1, ⟨rfl, hcx1, ⟨h1, ld1, l1, ρ1, hg1⟩, -⟩, hs1⟩ -
              refine WE.stp hs1 ?_
              have hb1' := hcx1.1.1
              have hh1 : h1 ≤ S.c x := hg1.2.2.1.1.le_w
              have hrow1 := hcx1.2.2.2.2.2.2.2.2.2.1.1
              refine aw_aload_n dX5_order_44 (by rfl) (Or.inr ⟨_, rfl⟩) ?_
              refine aw_get fX5_49 dX5_order_45 hb1' (by rfl) ?_
              refine aw_aload dX5_order_48 (by rfl) (Or.inr ⟨_, rfl⟩) ?_
              refine aw_iload_n dX5_order_50 (by rfl) ?_
              refine aw_iconstZ dX5_order_51 ?_
              refine aw_callv vX5_144 dX5_order_52 hrow1 (c_readA (d + 5) (f := 1) hs1.1 hcx1 hy (i := k) (by omega) (Or.inl rfl)) (by rfl) (by rfl) (by omega) (Nat.le_of_ble_eq_true rfl) ?_
              rintro _ V2 sz2 mc2 ms2 ⟨Z2, P2, L2, ⟨rfl, hcx2, hkv2, hrd, hot⟩, hs2⟩ -
              refine WE.stp hs2 ?_
              have hb2 := hcx2.1.1
              obtain ⟨hg2, hAm2⟩ := hg1.read (X := X) (by omega) (by omega) hkv2 hot
              obtain ⟨fr1, fr2, -⟩ := hcx2.2.2.2.2.2.2.2.2.2.2.1
              obtain ⟨nm, Fm, hWm⟩ := hs2.1.raw (us_fa (b := b) (j := 0) (by omega)).1
              refine aw_aload_n dX5_order_55 (by rfl) (Or.inr ⟨_, rfl⟩) ?_
              refine aw_get fX5_53 dX5_order_56 hb2 (by rfl) ?_
              refine aw_get fX5_151 dX5_order_59 fr1 (by rfl) ?_
              refine aw_iconstZ dX5_order_62 ?_
              refine aw_aaldZ (t0 := 5) (0) (by rfl) dX5_order_63 fr2 (by omega) (by omega) (by omega) ?_
              refine aw_astore dX5_order_64 (by decide) (Or.inr ⟨_, rfl⟩) ?_
              refine aw_aload dX5_order_66 (by rfl) (Or.inr ⟨_, rfl⟩) ?_
              refine aw_lconstZ (z := 1) dX5_order_68 (by decide) ?_
              show AW _ _ _ _ _ (_ :: .ref (b + 635) :: _) _ _ _
              refine aw_callv vX5_159 dX5_order_69 hWm.1 (w_put (d + 6) (z := 1) hs2.1 (us_fa (b := b) (j := 0) (by omega)).1 (by omega)) (by rfl) (by rfl) (by omega) (Nat.le_of_ble_eq_true rfl) ?_
              rintro _ V3 sz3 mc3 ms3 ⟨rfl, P3, L3, hs3⟩ -
              refine WE.stp (WSE.of hs3) ?_
              have hk3 : ∀ a, SAB b X a → V3 a = V2 a := fun a ha => hs3.2.2.1 a ha
              have hcx3 := hcx2.zs hk3 (Z' := upF Z2 (b + 635) 1) (fun q hq => upF_ne _ _ (by omega))
              have hA3 : ∀ i j, i < h1 → j < S.c x → AM (GWd b) (upF Z2 (b + 635) 1) ρ1 i j = AM (GWd b) Z2 ρ1 i j := fun i j hi hj => by
                have := am_W hg2.1 (i := i) (j := j) (by omega) (by omega)
                exact upF_ne _ _ (by omega)
              have hg3 : GSp g b V3 (upF Z2 (b + 635) 1) (GWd b) (TM (S.N x)) (S.r x) (S.c x) h1 ld1 l1 ρ1 := hg2.keep (hg2.1.kept2 (fun a ha => hk3 a (sab_gW ha).1)) hA3
              have hI3 : OcI (AM (GWd b) Z2 ρ1) h1 (S.c x) l1 (fun j => S.N y (5 * k + j)) (KB (S.c x) 1000) 0 (upF Z2 (b + 635) 1 (b + 635)) (fun j => upF Z2 (b + 635) 1 (b + 613 + 2 * j)) := by
                have e : ∀ j, j < S.c x → upF Z2 (b + 635) 1 (b + 613 + 2 * j) = S.N y (5 * k + j) := fun j hj => by rw [upF_ne _ _ (by omega), hrd j (by omega), Int.one_mul]
                refine ⟨⟨fun j => S.N y (5 * k + j), ⟨by rw [upF_self]; omega, ⟨fun _ => 0, fun j hj => ?_⟩, fun i hi => absurd hi (by omega), fun n _ => ?_⟩, fun j hj _ => e j hj, fun j hj => by show upF Z2 (b + 635) 1 (b + 613 + 2 * j) = 0 ↔ S.N y (5 * k + j) = 0; rw [e j hj]⟩, fun j hj => ?_, ?_⟩
                · rw [upF_self]; show S.N y (5 * k + j) = 1 * S.N y (5 * k + j) - Sg (fun i => 0 * AM (GWd b) Z2 ρ1 i j) 0; show S.N y (5 * k + j) = 1 * S.N y (5 * k + j) - 0; omega
                · rw [upF_self]; exact ⟨n, by omega⟩
                · show ab (upF Z2 (b + 635) 1 (b + 613 + 2 * j)) ≤ _; rw [e j hj, Int.pow_zero]; have := qy (5 * k + j) (by omega); unfold ab; omega
                · rw [upF_self, Int.pow_zero]; omega
              refine aw_iconstZ dX5_order_72 ?_
              refine aw_istore dX5_order_73 (by decide) ?_
              refine aw_pk [7, 6, 0] (by rfl) ?_
              refine od_75 d hx hg2 (fun {V4 sz4 Z4 P4 L4} hw4 hcx4 hg4 hA4 hI4 => ?_) h1 0 (by omega) hs3.1 hcx3 hg3 hA3 hI3
              have hb4 := hcx4.1.1
              have hgd4 : V4 (b + 159) = some (grO (b + 159 + 21) (b + 159 + 20) (b + 159 + 1) (b + 159 + 16) (b + 159 + 18) h1 (S.c x)) := hg4.1.1
              have hAs4 := hcx4.2.2.2.2.2.2.2.2.2.1
              obtain ⟨jj, hjj⟩ := FF.ex (fun j => Z4 (b + 613 + 2 * j)) (S.c x)
              have hle4 := hjj.1
              obtain ⟨⟨W, hO, -, hWz⟩, -, hMb⟩ := hI4
              obtain ⟨ldT, ρT, hGD, -⟩ := hcx4.2.2.2.2.1
              have hAO := hcx4.2.2.2.2.2.1
              obtain ⟨tgd, tra, -, trow, tRS, tinj⟩ := id hGD
              have tgd : V4 (b + 17) = some (grO (b + 17 + 21) (b + 17 + 20) (b + 17 + 1) (b + 17 + 16) (b + 17 + 18) A.h A.w) := tgd
              have tra : V4 (b + 17 + 21) = some (aQ g 4 10 (fun i => some (ρT i))) := tra
              obtain ⟨tr1, tr2, -⟩ := trow _ (tRS 0 (show 0 < 10 by omega))
              have tr2 : V4 ((GT b).ka (ρT 0)) = some (aQ g 5 5 (fun j => some ((GT b).ga (ρT 0) j))) := tr2
              have hct := am_T hGD (i := 0) (j := 0) (by omega) (by omega)
              have hctw := ((gst_T b X).2.2.2.2.1 _ (tRS 0 (show 0 < 10 by omega)) 0 (show 0 < 5 by omega)).1.1
              obtain ⟨nt, Ft, hWt⟩ := hw4.raw hctw
              have hSM : Sm (Z4 (b + 635)) := Sm.le (z := KB (S.c x) 1000 ^ h1) (by have := hO.1; omega) (sm_pwt ⟨S.c x, by omega⟩ ⟨h1, by omega⟩)
              refine aw_aload_n dX5_order_105 (by rfl) (Or.inr ⟨_, rfl⟩) ?_
              refine aw_get fX5_49 dX5_order_106 hb4 (by rfl) ?_
              refine aw_aload_n dX5_order_109 (by rfl) (Or.inr ⟨_, rfl⟩) ?_
              refine aw_get fX5_35 dX5_order_110 hb4 (by rfl) ?_
              refine aw_get fX5_114 dX5_order_113 hgd4 (by rfl) ?_
              refine aw_callv vX5_189 dX5_order_116 hAs4.1 (t_firstFilled (d + 7) hw4 hAs4 (fun j hj => (us_as hj).1) hjj (by omega)) (by rfl) (by rfl) (by omega) (Nat.le_of_ble_eq_true rfl) ?_
              rintro _ _ _ _ _ ⟨rfl, rfl, rfl, rfl, rfl⟩ -
              refine q0 ?_
              refine aw_aload_n dX5_order_119 (by rfl) (Or.inr ⟨_, rfl⟩) ?_
              refine aw_get fX5_35 dX5_order_120 hb4 (by rfl) ?_
              refine aw_get fX5_114 dX5_order_123 hgd4 (by rfl) ?_
              refine aw_icmp_geZ (tgt := 131) dX5_order_126 (by decide) (by omega) (by omega) (fun hc_126 => ?_) (fun hc_126 => ?_)
              · refine aw_aload_n dX5_order_131 (by rfl) (Or.inr ⟨_, rfl⟩) ?_
                refine aw_get fX5_27 dX5_order_132 hb4 (by rfl) ?_
                refine aw_get fX5_141 dX5_order_135 tgd (by rfl) ?_
                refine aw_iconstZ dX5_order_138 ?_
                refine aw_aaldZ (t0 := 4) (0) (by rfl) dX5_order_139 tra (by omega) (by omega) (by omega) ?_
                refine aw_get fX5_151 dX5_order_140 tr1 (by rfl) ?_
                refine aw_iconstZ dX5_order_143 ?_
                refine aw_aaldZ (t0 := 5) (0) (by rfl) dX5_order_144 tr2 (by omega) (by omega) (by omega) ?_
                refine aw_aload dX5_order_145 (by rfl) (Or.inr ⟨_, rfl⟩) ?_
                refine aw_callv vX5_192 dX5_order_147 hWt.1 (w_copy (d + 4) (u := b + 635) hw4 hctw (us_fa (b := b) (j := 0) (by omega)).1 (by omega) (Sm.u156 hSM)) (by rfl) (by rfl) (by omega) (Nat.le_of_ble_eq_true rfl) ?_
                rintro _ V5 sz5 mc5 ms5 ⟨rfl, P5, L5, hs5⟩ -
                refine WE.stp (WSE.of hs5) ?_
                have hk5 : ∀ a, SAB b X a → V5 a = V4 a := fun a ha => hs5.2.2.1 a ha
                have hb5 := (hk5 b (Or.inl rfl)).trans hb4
                have hGT5 : GD g V5 (b + 17 + 1) (GT b) A.h A.w ldT ρT := hGD.kept2 (fun a ha => hk5 a (sab_gT ha).1)
                refine aw_aload_n dX5_order_150 (by rfl) (Or.inr ⟨_, rfl⟩) ?_
                refine aw_iconstZ dX5_order_151 ?_
                refine aw_iconstZ dX5_order_152 ?_
                show AW _ _ _ _ _ (.int (iZ ((1 : Nat) : Int)) :: .int (iZ ((1 : Nat) : Int)) :: _) _ _ _
                refine aw_callv vX5_148 dX5_order_153 hb5 (t_closeAnswer g (d + 6) (r := 1) (w := 1) hb5 hGT5 (by omega)) (by rfl) (by rfl) (by omega) (Nat.le_of_ble_eq_true rfl) ?_
                rintro _ _ _ _ _ ⟨rfl, rfl, rfl, rfl, rfl⟩ -
                refine WE.stp (cl_wse hs5.1) ?_
                refine aw_iconstZ dX5_order_156 ?_
                refine aw_iret dX5_order_157 rfl (by rfl) ?_
                obtain ⟨hcx, hAI⟩ := hcx4.ans (V := V5) (Z := upF Z4 ((GT b).ga (ρT 0) 0) (Z4 (b + 635))) (r := 1) (w := 1) (M := fun _ _ => Z4 (b + 635)) hGD hAO hk5 (fun q hq => upF_ne _ _ (by omega)) (by omega) (fun i j hi hj => by rw [show i = 0 by omega, show j = 0 by omega, upF_self])
                exact WE.ret (cl_wse hs5.1).1 ⟨S, _, hcx, rfl, Or.inl ⟨x, y, k, hAsk, Or.inl ⟨rfl, Z4 (b + 635), hO.1, (hg2.2.2.2 _).mpr (hO.yes (fun j hj => (hWz j hj).mp (hjj.2.1 j (by omega)))), fun n hn => hO.2.2.2 n ((hg2.2.2.2 _).mp hn), hAI⟩⟩⟩
              · refine aw_iconstZ dX5_order_129 ?_
                refine aw_iret dX5_order_130 rfl (by rfl) ?_
                refine WE.ret hw4 ⟨S, A, hcx4, rfl, Or.inl ⟨x, y, k, hAsk, Or.inr ⟨rfl, fun n hn z => ?_, rfl⟩⟩⟩
                exact OrP.no hg2.2.2.1.1 hO (j0 := jj) (by omega) (fun z2 => hjj.2.2 (by omega) ((hWz jj (by omega)).mpr z2)) hn ((hg2.2.2.2 _).mp z)
            · exact absurd hc_30 (by rw [if_pos hir]; decide)
        · have hno3 : ¬ ∃ n m k : Nat, AskP S (x : Int) (y : Int) i n m k := by
            rintro ⟨n, m, k, k1, k2, k3, k4, k5, k6, k7, k8, k9⟩
            obtain rfl : y = m := by omega
            exact hir ⟨by omega, by omega⟩
          refine AMet.of rfl rfl (Nat.le_of_ble_eq_true rfl) ?_
          show AW g mX5_order (d + 8) 0 [(0, .ref b), (1, .int (iZ x)), (2, .int (iZ y)), (3, .int (iZ i))] [] V sz _
          refine aw_aload_n dX5_order_0 (by rfl) (Or.inr ⟨_, rfl⟩) ?_
          refine aw_iload_n dX5_order_1 (by rfl) ?_
          refine aw_callv vX5_72 dX5_order_2 hb (t_find (d + 6) h ht hv) (by rfl) (by rfl) (by omega) (Nat.le_of_ble_eq_true rfl) ?_
          rintro _ _ _ _ _ ⟨rfl, rfl, rfl, rfl, rfl⟩ -
          refine q0 ?_
          refine aw_astore dX5_order_5 (by decide) (Or.inr ⟨_, rfl⟩) ?_
          refine aw_aload_n dX5_order_7 (by rfl) (Or.inr ⟨_, rfl⟩) ?_
          refine aw_iload_n dX5_order_8 (by rfl) ?_
          refine aw_callv vX5_72 dX5_order_9 hb (t_find (d + 6) h hu hv2) (by rfl) (by rfl) (by omega) (Nat.le_of_ble_eq_true rfl) ?_
          rintro _ _ _ _ _ ⟨rfl, rfl, rfl, rfl, rfl⟩ -
          refine q0 ?_
          refine aw_astore dX5_order_12 (by decide) (Or.inr ⟨_, rfl⟩) ?_
          refine aw_aload dX5_order_14 (by rfl) (Or.inr ⟨_, rfl⟩) ?_
          refine aw_aload dX5_order_16 (by rfl) (Or.inr ⟨_, rfl⟩) ?_
          refine aw_calls sX5_137 dX5_order_18 (t_areAlike (d + 6 + 1) (q := 1) h hv hv2 (Or.inl ⟨rfl, x, y, hx, hy, rfl, rfl, hrx, hry, hcc⟩)) (by rfl) (by rfl) (by omega) (Nat.le_of_ble_eq_true rfl) ?_
          rintro _ _ _ _ _ ⟨rfl, rfl, rfl, rfl, rfl⟩ -
          refine q0 ?_
          refine aw_if_eqZ (tgt := 33) dX5_order_21 (by decide) (by decide) (fun hc_21 => ?_) (fun hc_21 => ?_)
          · exact absurd hc_21 (by decide)
          · refine aw_aload dX5_order_24 (by rfl) (Or.inr ⟨_, rfl⟩) ?_
            refine aw_iload_n dX5_order_26 (by rfl) ?_
            refine aw_callv vX5_76 dX5_order_27 hy1 (t_hasRow g (d + 6 + 1) (i := i) (hTb y hy) (by have := (hOk y hy).1; omega) hi) (by rfl) (by rfl) (by omega) (Nat.le_of_ble_eq_true rfl) ?_
            rintro _ _ _ _ _ ⟨rfl, rfl, rfl, rfl, rfl⟩ -
            refine q0 ?_
            refine aw_if_neZ (tgt := 35) dX5_order_30 (by decide) (by split <;> omega) (fun hc_30 => ?_) (fun hc_30 => ?_)
            · exact absurd (if_neg hir) hc_30
            · refine aw_iconstZ dX5_order_33 ?_
              refine aw_iret dX5_order_34 rfl (by rfl) ?_
              exact WE.ret hw0 ⟨S, A, h, rfl, Or.inr ⟨hno3, rfl, rfl⟩⟩
      · have hal : ¬ (∃ n m : Nat, n < 12 ∧ m < 12 ∧ ((x : Nat) : Int) = (n : Int) ∧ ((y : Nat) : Int) = (m : Int) ∧ 0 < S.r n ∧ 0 < S.r m ∧ S.c n = S.c m) := fun ⟨n, k, _, _, e1, e2, _, _, e3⟩ => by
          obtain rfl : x = n := by omega
          obtain rfl : y = k := by omega
          exact hcc e3
        have hno3 : ¬ ∃ n m k : Nat, AskP S (x : Int) (y : Int) i n m k := fun ⟨n, m, k, k1, k2, k3, k4, k5, k6, k7, k8, k9⟩ => hal ⟨n, m, k1, k2, k3, k4, k6, k7, k8⟩
        refine AMet.of rfl rfl (Nat.le_of_ble_eq_true rfl) ?_
        show AW g mX5_order (d + 8) 0 [(0, .ref b), (1, .int (iZ x)), (2, .int (iZ y)), (3, .int (iZ i))] [] V sz _
        refine aw_aload_n dX5_order_0 (by rfl) (Or.inr ⟨_, rfl⟩) ?_
        refine aw_iload_n dX5_order_1 (by rfl) ?_
        refine aw_callv vX5_72 dX5_order_2 hb (t_find (d + 6) h ht hv) (by rfl) (by rfl) (by omega) (Nat.le_of_ble_eq_true rfl) ?_
        rintro _ _ _ _ _ ⟨rfl, rfl, rfl, rfl, rfl⟩ -
        refine q0 ?_
        refine aw_astore dX5_order_5 (by decide) (Or.inr ⟨_, rfl⟩) ?_
        refine aw_aload_n dX5_order_7 (by rfl) (Or.inr ⟨_, rfl⟩) ?_
        refine aw_iload_n dX5_order_8 (by rfl) ?_
        refine aw_callv vX5_72 dX5_order_9 hb (t_find (d + 6) h hu hv2) (by rfl) (by rfl) (by omega) (Nat.le_of_ble_eq_true rfl) ?_
        rintro _ _ _ _ _ ⟨rfl, rfl, rfl, rfl, rfl⟩ -
        refine q0 ?_
        refine aw_astore dX5_order_12 (by decide) (Or.inr ⟨_, rfl⟩) ?_
        refine aw_aload dX5_order_14 (by rfl) (Or.inr ⟨_, rfl⟩) ?_
        refine aw_aload dX5_order_16 (by rfl) (Or.inr ⟨_, rfl⟩) ?_
        refine aw_calls sX5_137 dX5_order_18 (t_areAlike (d + 6 + 1) (q := 0) h hv hv2 (Or.inr ⟨rfl, hal⟩)) (by rfl) (by rfl) (by omega) (Nat.le_of_ble_eq_true rfl) ?_
        rintro _ _ _ _ _ ⟨rfl, rfl, rfl, rfl, rfl⟩ -
        refine q0 ?_
        refine aw_if_eqZ (tgt := 33) dX5_order_21 (by decide) (by decide) (fun hc_21 => ?_) (fun hc_21 => ?_)
        · refine aw_iconstZ dX5_order_33 ?_
          refine aw_iret dX5_order_34 rfl (by rfl) ?_
          exact WE.ret hw0 ⟨S, A, h, rfl, Or.inr ⟨hno3, rfl, rfl⟩⟩
        · exact absurd rfl hc_21
    · have hal : ¬ (∃ n m : Nat, n < 12 ∧ m < 12 ∧ ((x : Nat) : Int) = (n : Int) ∧ u = (m : Int) ∧ 0 < S.r n ∧ 0 < S.r m ∧ S.c n = S.c m) := fun ⟨n, k, _, hk, e1, e2, _, hk2, e3⟩ => by
        have := hno2 k hk e2
        omega
      have hno3 : ¬ ∃ n m k : Nat, AskP S (x : Int) u i n m k := fun ⟨n, m, k, k1, k2, k3, k4, k5, k6, k7, k8, k9⟩ => hal ⟨n, m, k1, k2, k3, k4, k6, k7, k8⟩
      refine AMet.of rfl rfl (Nat.le_of_ble_eq_true rfl) ?_
      show AW g mX5_order (d + 8) 0 [(0, .ref b), (1, .int (iZ x)), (2, .int (iZ u)), (3, .int (iZ i))] [] V sz _
      refine aw_aload_n dX5_order_0 (by rfl) (Or.inr ⟨_, rfl⟩) ?_
      refine aw_iload_n dX5_order_1 (by rfl) ?_
      refine aw_callv vX5_72 dX5_order_2 hb (t_find (d + 6) h ht hv) (by rfl) (by rfl) (by omega) (Nat.le_of_ble_eq_true rfl) ?_
      rintro _ _ _ _ _ ⟨rfl, rfl, rfl, rfl, rfl⟩ -
      refine q0 ?_
      refine aw_astore dX5_order_5 (by decide) (Or.inr ⟨_, rfl⟩) ?_
      refine aw_aload_n dX5_order_7 (by rfl) (Or.inr ⟨_, rfl⟩) ?_
      refine aw_iload_n dX5_order_8 (by rfl) ?_
      refine aw_callv vX5_72 dX5_order_9 hb (t_find (d + 6) h hu hv2) (by rfl) (by rfl) (by omega) (Nat.le_of_ble_eq_true rfl) ?_
      rintro _ _ _ _ _ ⟨rfl, rfl, rfl, rfl, rfl⟩ -
      refine q0 ?_
      refine aw_astore dX5_order_12 (by decide) (Or.inl rfl) ?_
      refine aw_aload dX5_order_14 (by rfl) (Or.inr ⟨_, rfl⟩) ?_
      refine aw_aload dX5_order_16 (by rfl) (Or.inl rfl) ?_
      refine aw_calls sX5_137 dX5_order_18 (t_areAlike (d + 6 + 1) (q := 0) h hv hv2 (Or.inr ⟨rfl, hal⟩)) (by rfl) (by rfl) (by omega) (Nat.le_of_ble_eq_true rfl) ?_
      rintro _ _ _ _ _ ⟨rfl, rfl, rfl, rfl, rfl⟩ -
      refine q0 ?_
      refine aw_if_eqZ (tgt := 33) dX5_order_21 (by decide) (by decide) (fun hc_21 => ?_) (fun hc_21 => ?_)
      · refine aw_iconstZ dX5_order_33 ?_
        refine aw_iret dX5_order_34 rfl (by rfl) ?_
        exact WE.ret hw0 ⟨S, A, h, rfl, Or.inr ⟨hno3, rfl, rfl⟩⟩
      · exact absurd rfl hc_21
  · have hal : ¬ (∃ n m : Nat, n < 12 ∧ m < 12 ∧ t = (n : Int) ∧ u = (m : Int) ∧ 0 < S.r n ∧ 0 < S.r m ∧ S.c n = S.c m) := fun ⟨n, k, hk, _, e1, e2, hk2, _, e3⟩ => by
      have := hno n hk e1
      omega
    have hno3 : ¬ ∃ n m k : Nat, AskP S t u i n m k := fun ⟨n, m, k, k1, k2, k3, k4, k5, k6, k7, k8, k9⟩ => hal ⟨n, m, k1, k2, k3, k4, k6, k7, k8⟩
    rcases id hv2 with ⟨y, hy, rfl, hry, rfl⟩ | ⟨hno2, rfl⟩
    · skip
      refine AMet.of rfl rfl (Nat.le_of_ble_eq_true rfl) ?_
      show AW g mX5_order (d + 8) 0 [(0, .ref b), (1, .int (iZ t)), (2, .int (iZ y)), (3, .int (iZ i))] [] V sz _
      refine aw_aload_n dX5_order_0 (by rfl) (Or.inr ⟨_, rfl⟩) ?_
      refine aw_iload_n dX5_order_1 (by rfl) ?_
      refine aw_callv vX5_72 dX5_order_2 hb (t_find (d + 6) h ht hv) (by rfl) (by rfl) (by omega) (Nat.le_of_ble_eq_true rfl) ?_
      rintro _ _ _ _ _ ⟨rfl, rfl, rfl, rfl, rfl⟩ -
      refine q0 ?_
      refine aw_astore dX5_order_5 (by decide) (Or.inl rfl) ?_
      refine aw_aload_n dX5_order_7 (by rfl) (Or.inr ⟨_, rfl⟩) ?_
      refine aw_iload_n dX5_order_8 (by rfl) ?_
      refine aw_callv vX5_72 dX5_order_9 hb (t_find (d + 6) h hu hv2) (by rfl) (by rfl) (by omega) (Nat.le_of_ble_eq_true rfl) ?_
      rintro _ _ _ _ _ ⟨rfl, rfl, rfl, rfl, rfl⟩ -
      refine q0 ?_
      refine aw_astore dX5_order_12 (by decide) (Or.inr ⟨_, rfl⟩) ?_
      refine aw_aload dX5_order_14 (by rfl) (Or.inl rfl) ?_
      refine aw_aload dX5_order_16 (by rfl) (Or.inr ⟨_, rfl⟩) ?_
      refine aw_calls sX5_137 dX5_order_18 (t_areAlike (d + 6 + 1) (q := 0) h hv hv2 (Or.inr ⟨rfl, hal⟩)) (by rfl) (by rfl) (by omega) (Nat.le_of_ble_eq_true rfl) ?_
      rintro _ _ _ _ _ ⟨rfl, rfl, rfl, rfl, rfl⟩ -
      refine q0 ?_
      refine aw_if_eqZ (tgt := 33) dX5_order_21 (by decide) (by decide) (fun hc_21 => ?_) (fun hc_21 => ?_)
      · refine aw_iconstZ dX5_order_33 ?_
        refine aw_iret dX5_order_34 rfl (by rfl) ?_
        exact WE.ret hw0 ⟨S, A, h, rfl, Or.inr ⟨hno3, rfl, rfl⟩⟩
      · exact absurd rfl hc_21
    · skip
      refine AMet.of rfl rfl (Nat.le_of_ble_eq_true rfl) ?_
      show AW g mX5_order (d + 8) 0 [(0, .ref b), (1, .int (iZ t)), (2, .int (iZ u)), (3, .int (iZ i))] [] V sz _
      refine aw_aload_n dX5_order_0 (by rfl) (Or.inr ⟨_, rfl⟩) ?_
      refine aw_iload_n dX5_order_1 (by rfl) ?_
      refine aw_callv vX5_72 dX5_order_2 hb (t_find (d + 6) h ht hv) (by rfl) (by rfl) (by omega) (Nat.le_of_ble_eq_true rfl) ?_
      rintro _ _ _ _ _ ⟨rfl, rfl, rfl, rfl, rfl⟩ -
      refine q0 ?_
      refine aw_astore dX5_order_5 (by decide) (Or.inl rfl) ?_
      refine aw_aload_n dX5_order_7 (by rfl) (Or.inr ⟨_, rfl⟩) ?_
      refine aw_iload_n dX5_order_8 (by rfl) ?_
      refine aw_callv vX5_72 dX5_order_9 hb (t_find (d + 6) h hu hv2) (by rfl) (by rfl) (by omega) (Nat.le_of_ble_eq_true rfl) ?_
      rintro _ _ _ _ _ ⟨rfl, rfl, rfl, rfl, rfl⟩ -
      refine q0 ?_
      refine aw_astore dX5_order_12 (by decide) (Or.inl rfl) ?_
      refine aw_aload dX5_order_14 (by rfl) (Or.inl rfl) ?_
      refine aw_aload dX5_order_16 (by rfl) (Or.inl rfl) ?_
      refine aw_calls sX5_137 dX5_order_18 (t_areAlike (d + 6 + 1) (q := 0) h hv hv2 (Or.inr ⟨rfl, hal⟩)) (by rfl) (by rfl) (by omega) (Nat.le_of_ble_eq_true rfl) ?_
      rintro _ _ _ _ _ ⟨rfl, rfl, rfl, rfl, rfl⟩ -
      refine q0 ?_
      refine aw_if_eqZ (tgt := 33) dX5_order_21 (by decide) (by decide) (fun hc_21 => ?_) (fun hc_21 => ?_)
      · refine aw_iconstZ dX5_order_33 ?_
        refine aw_iret dX5_order_34 rfl (by rfl) ?_
        exact WE.ret hw0 ⟨S, A, h, rfl, Or.inr ⟨hno3, rfl, rfl⟩⟩
      · exact absurd rfl hc_21

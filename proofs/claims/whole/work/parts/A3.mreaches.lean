/-! ===== the reference: reaches ===== -/
def InW : Nat → Prop := fun x => (440 ≤ x ∧ x < 445) ∨ (450 ≤ x ∧ x < 455) ∨ (415 ≤ x ∧ x ≤ 418)
abbrev B5 (zs : Nat → Int) : Mat := fun i j => zs (15 * i + j)
/-- what is left of the row when k rows have been taken off -/
def RcI (zs z : Nat → Int) (l : Nat → Nat) (X K : Int) (k : Nat) : Prop := (∀ j, j < 5 → z (450 + j) = zs (450 + j) - Sg (fun i => z (440 + i) * zs (15 * i + j)) k) ∧ (∀ i, i < k → z (450 + l i) = 0) ∧ (∀ j, j < 5 → ab (z (450 + j)) ≤ X * (1 + K) ^ k) ∧ Frm zs z InW
def RcP (zs : Nat → Int) (r : Nat) (l : Nat → Nat) (X K : Int) : Prop := Ech (B5 zs) r 5 l ∧ (∀ i, i < r → 0 < zs (15 * i + l i)) ∧ (∀ i j, i < r → j < 5 → ab (zs (15 * i + j)) ≤ K) ∧ (∀ j, j < 5 → ab (zs (450 + j)) ≤ X) ∧ 1 ≤ X ∧ 1 ≤ K
section RcS
variable {zs z z' : Nat → Int} {r k : Nat} {l : Nat → Nat} {X K : Int}
theorem RcI.zero (p : RcP zs r l X K) : RcI zs zs l X K 0 := ⟨fun j _ => by simp [Sg], fun i hi => absurd hi (by omega), fun j hj => by rw [Int.pow_zero, Int.mul_one]; exact p.2.2.2.1 j hj, fun _ _ => rfl⟩
theorem RcI.span (q : RcI zs z l X K k) (hk : k ≤ r) (h : Span (B5 zs) r 5 (fun j => zs (450 + j))) : Span (B5 zs) r 5 (fun j => z (450 + j)) := by
  have h1 : Span (B5 zs) r 5 (fun j => Sg (fun i => z (440 + i) * zs (15 * i + j)) k) := span_sum (A := B5 zs) (A' := B5 zs) (c := fun i => z (440 + i)) (n := k) (fun i hi => Span.row (by omega))
  exact (h.sub (q := 1) h1).congr (fun j hj => by rw [q.1 j hj, Int.one_mul])
theorem RcI.bd (p : RcP zs r l X K) (q : RcI zs z l X K k) (hk : k < r) {j : Nat} (hj : j < 5) : ab (z (450 + l k) / zs (15 * k + l k) * zs (15 * k + j)) ≤ X * (1 + K) ^ (k + 1) ∧ ab (z (450 + j) - z (450 + l k) / zs (15 * k + l k) * zs (15 * k + j)) ≤ X * (1 + K) ^ (k + 1) := by
  obtain ⟨p1, p2, p3, p4, p5, p6⟩ := p
  have hl := (p1.1 k hk).1
  have a1 := q.2.2.1 (l k) hl
  have a2 := q.2.2.1 j hj
  have a3 := p3 k j hk hj
  have a4 : ab (z (450 + l k) / zs (15 * k + l k)) ≤ ab (z (450 + l k)) := by
    have := fl_abs (a := z (450 + l k)) (p2 k hk)
    unfold ab; omega
  have a5 := pw1 (show 1 ≤ 1 + K by omega) k
  have a6 : 1 * 1 ≤ X * (1 + K) ^ k := Int.mul_le_mul p5 a5 (by omega) (by omega)
  have a7 : X * (1 + K) ^ (k + 1) = X * (1 + K) ^ k + X * (1 + K) ^ k * K := by
    rw [Int.pow_succ, Int.mul_add, Int.mul_one, Int.mul_add, Int.mul_assoc]
  rw [a7]
  generalize X * (1 + K) ^ k = W at *
  have b1 : ab (z (450 + l k) / zs (15 * k + l k)) * ab (zs (15 * k + j)) ≤ W * K := Int.mul_le_mul (Int.le_trans a4 a1) a3 (ab0 _) (by omega)
  have b2 := ab_sub (z (450 + j)) (z (450 + l k) / zs (15 * k + l k) * zs (15 * k + j))
  rw [ab_mul] at b2 ⊢
  exact ⟨by omega, by omega⟩
theorem RcI.step (p : RcP zs r l X K) (q : RcI zs z l X K k) (hk : k < r) (hr : r ≤ 5) (hdv : z (450 + l k) % zs (15 * k + l k) = 0) (h1 : ∀ x, ¬ (x = 440 + k) → ¬ (450 ≤ x ∧ x < 455) → ¬ (415 ≤ x ∧ x ≤ 418) → z' x = z x) (h2 : z' (440 + k) = z (450 + l k) / zs (15 * k + l k)) (h3 : ∀ j, j < 5 → z' (450 + j) = z (450 + j) - z (450 + l k) / zs (15 * k + l k) * zs (15 * k + j)) : RcI zs z' l X K (k + 1) := by
  have hb := fun j hj => (RcI.bd p q hk (j := j) hj).2
  obtain ⟨q1, q2, q3, q4⟩ := q
  obtain ⟨p1, p2, -⟩ := p
  have hl := (p1.1 k hk).1
  refine ⟨fun j hj => ?_, fun i hi => ?_, fun j hj => by rw [h3 j hj]; exact hb j hj, fun x hx => ?_⟩
  · simp only [Sg]
    rw [h3 j hj, h2, q1 j hj, Sg_congr (f := fun i => z' (440 + i) * zs (15 * i + j)) (h := fun i => z (440 + i) * zs (15 * i + j)) (fun i hi => by
      show z' (440 + i) * zs (15 * i + j) = _
      rw [h1 (440 + i) (by omega) (by omega) (by omega)])]
    omega
  · by_cases e : i = k
    · subst e
      rw [h3 _ hl]
      have := Int.emod_add_mul_ediv (z (450 + l i)) (zs (15 * i + l i))
      rw [Int.mul_comm (zs (15 * i + l i))] at this
      omega
    · have e1 : zs (15 * k + l i) = 0 := (p1.1 k hk).2.2 (l i) (p1.2 i k (by omega) hk)
      rw [h3 _ (by have := (p1.1 i (by omega)).1; omega), e1, Int.mul_zero, Int.sub_zero]
      exact q2 i (by omega)
  · unfold InW at hx
    rw [h1 x (by omega) (by omega) (by omega)]
    exact q4 x (by unfold InW; omega)
theorem RcI.no (p : RcP zs r l X K) (q : RcI zs z l X K k) (hk : k < r) (hdv : ¬ z (450 + l k) % zs (15 * k + l k) = 0) : ¬ Span (B5 zs) r 5 (fun j => zs (450 + j)) := fun h => by
  obtain ⟨c, hc⟩ := ech_mul p.1 (q.span (by omega) h) hk (fun i hi => q.2.1 i hi)
  refine hdv ?_
  have hc' : z (450 + l k) = c * zs (15 * k + l k) := hc
  rw [hc', Int.mul_emod_left]
theorem RcI.nz (p : RcP zs r l X K) (q : RcI zs z l X K r) {j : Nat} (hj : j < 5) (h0 : z (450 + j) ≠ 0) : ¬ Span (B5 zs) r 5 (fun j => zs (450 + j)) := fun h => h0 (ech_zero p.1 (q.span (Nat.le_refl _) h) (fun i hi => q.2.1 i hi) j hj)
end RcS
def ReQ (g : GX) (mo : Nat) (zs : Nat → Int) (r : Nat) : Option Value → AH → Prop := fun q V' => ∃ z', MN g mo V' z' ∧ Frm zs z' InW ∧ ((some (.int (iZ 1)) = q ∧ ∀ j, j < 5 → zs (450 + j) = Sg (fun i => z' (440 + i) * zs (15 * i + j)) r) ∨ (some (.int (iZ 0)) = q ∧ ¬ Span (B5 zs) r 5 (fun j => zs (450 + j))))
abbrev mX6_reaches : MI := (yX6_reaches, cX6_reaches, 4, (some FieldType.boolean), noX)
theorem dX6_reaches_0 : decode cX6_reaches 0 = .ok (.iconst 0, 1) := by decide +kernel
theorem dX6_reaches_1 : decode cX6_reaches 1 = .ok (.istore_n 2, 1) := by decide +kernel
theorem dX6_reaches_2 : decode cX6_reaches 2 = .ok (.iload_n 2, 1) := by decide +kernel
theorem dX6_reaches_3 : decode cX6_reaches 3 = .ok (.aload_n 0, 1) := by decide +kernel
theorem dX6_reaches_4 : decode cX6_reaches 4 = .ok (.getfield 117, 3) := by decide +kernel
theorem dX6_reaches_7 : decode cX6_reaches 7 = .ok (.if_icmp .ge 69, 3) := by decide +kernel
theorem dX6_reaches_10 : decode cX6_reaches 10 = .ok (.aload_n 0, 1) := by decide +kernel
theorem dX6_reaches_11 : decode cX6_reaches 11 = .ok (.iload_n 1, 1) := by decide +kernel
theorem dX6_reaches_12 : decode cX6_reaches 12 = .ok (.aload_n 0, 1) := by decide +kernel
theorem dX6_reaches_13 : decode cX6_reaches 13 = .ok (.getfield 27, 3) := by decide +kernel
theorem dX6_reaches_16 : decode cX6_reaches 16 = .ok (.iload_n 2, 1) := by decide +kernel
theorem dX6_reaches_17 : decode cX6_reaches 17 = .ok (.iaload, 1) := by decide +kernel
theorem dX6_reaches_18 : decode cX6_reaches 18 = .ok (.iadd, 1) := by decide +kernel
theorem dX6_reaches_19 : decode cX6_reaches 19 = .ok (.bipush 15, 2) := by decide +kernel
theorem dX6_reaches_21 : decode cX6_reaches 21 = .ok (.iload_n 2, 1) := by decide +kernel
theorem dX6_reaches_22 : decode cX6_reaches 22 = .ok (.imul, 1) := by decide +kernel
theorem dX6_reaches_23 : decode cX6_reaches 23 = .ok (.aload_n 0, 1) := by decide +kernel
theorem dX6_reaches_24 : decode cX6_reaches 24 = .ok (.getfield 27, 3) := by decide +kernel
theorem dX6_reaches_27 : decode cX6_reaches 27 = .ok (.iload_n 2, 1) := by decide +kernel
theorem dX6_reaches_28 : decode cX6_reaches 28 = .ok (.iaload, 1) := by decide +kernel
theorem dX6_reaches_29 : decode cX6_reaches 29 = .ok (.iadd, 1) := by decide +kernel
theorem dX6_reaches_30 : decode cX6_reaches 30 = .ok (.sipush 440, 3) := by decide +kernel
theorem dX6_reaches_33 : decode cX6_reaches 33 = .ok (.iload_n 2, 1) := by decide +kernel
theorem dX6_reaches_34 : decode cX6_reaches 34 = .ok (.iadd, 1) := by decide +kernel
theorem dX6_reaches_35 : decode cX6_reaches 35 = .ok (.invokevirtual 113, 3) := by decide +kernel
theorem dX6_reaches_38 : decode cX6_reaches 38 = .ok (.istore_n 3, 1) := by decide +kernel
theorem dX6_reaches_39 : decode cX6_reaches 39 = .ok (.iload_n 3, 1) := by decide +kernel
theorem dX6_reaches_40 : decode cX6_reaches 40 = .ok (.ifCond .ne 5, 3) := by decide +kernel
theorem dX6_reaches_43 : decode cX6_reaches 43 = .ok (.iconst 0, 1) := by decide +kernel
theorem dX6_reaches_44 : decode cX6_reaches 44 = .ok (.ireturn, 1) := by decide +kernel
theorem dX6_reaches_45 : decode cX6_reaches 45 = .ok (.aload_n 0, 1) := by decide +kernel
theorem dX6_reaches_46 : decode cX6_reaches 46 = .ok (.sipush 440, 3) := by decide +kernel
theorem dX6_reaches_49 : decode cX6_reaches 49 = .ok (.iload_n 2, 1) := by decide +kernel
theorem dX6_reaches_50 : decode cX6_reaches 50 = .ok (.iadd, 1) := by decide +kernel
theorem dX6_reaches_51 : decode cX6_reaches 51 = .ok (.sipush 416, 3) := by decide +kernel
theorem dX6_reaches_54 : decode cX6_reaches 54 = .ok (.invokevirtual 67, 3) := by decide +kernel
theorem dX6_reaches_57 : decode cX6_reaches 57 = .ok (.aload_n 0, 1) := by decide +kernel
theorem dX6_reaches_58 : decode cX6_reaches 58 = .ok (.iload_n 1, 1) := by decide +kernel
theorem dX6_reaches_59 : decode cX6_reaches 59 = .ok (.bipush 15, 2) := by decide +kernel
theorem dX6_reaches_61 : decode cX6_reaches 61 = .ok (.iload_n 2, 1) := by decide +kernel
theorem dX6_reaches_62 : decode cX6_reaches 62 = .ok (.imul, 1) := by decide +kernel
theorem dX6_reaches_63 : decode cX6_reaches 63 = .ok (.iconst 5, 1) := by decide +kernel
theorem dX6_reaches_64 : decode cX6_reaches 64 = .ok (.sipush 416, 3) := by decide +kernel
theorem dX6_reaches_67 : decode cX6_reaches 67 = .ok (.invokevirtual 100, 3) := by decide +kernel
theorem dX6_reaches_70 : decode cX6_reaches 70 = .ok (.iinc 2 1, 3) := by decide +kernel
theorem dX6_reaches_73 : decode cX6_reaches 73 = .ok (.goto (-71), 3) := by decide +kernel
theorem dX6_reaches_76 : decode cX6_reaches 76 = .ok (.iconst 0, 1) := by decide +kernel
theorem dX6_reaches_77 : decode cX6_reaches 77 = .ok (.istore_n 2, 1) := by decide +kernel
theorem dX6_reaches_78 : decode cX6_reaches 78 = .ok (.iload_n 2, 1) := by decide +kernel
theorem dX6_reaches_79 : decode cX6_reaches 79 = .ok (.iconst 5, 1) := by decide +kernel
theorem dX6_reaches_80 : decode cX6_reaches 80 = .ok (.if_icmp .ge 22, 3) := by decide +kernel
theorem dX6_reaches_83 : decode cX6_reaches 83 = .ok (.aload_n 0, 1) := by decide +kernel
theorem dX6_reaches_84 : decode cX6_reaches 84 = .ok (.getfield 17, 3) := by decide +kernel
theorem dX6_reaches_87 : decode cX6_reaches 87 = .ok (.iload_n 1, 1) := by decide +kernel
theorem dX6_reaches_88 : decode cX6_reaches 88 = .ok (.iload_n 2, 1) := by decide +kernel
theorem dX6_reaches_89 : decode cX6_reaches 89 = .ok (.iadd, 1) := by decide +kernel
theorem dX6_reaches_90 : decode cX6_reaches 90 = .ok (.iaload, 1) := by decide +kernel
theorem dX6_reaches_91 : decode cX6_reaches 91 = .ok (.ifCond .eq 5, 3) := by decide +kernel
theorem dX6_reaches_94 : decode cX6_reaches 94 = .ok (.iconst 0, 1) := by decide +kernel
theorem dX6_reaches_95 : decode cX6_reaches 95 = .ok (.ireturn, 1) := by decide +kernel
theorem dX6_reaches_96 : decode cX6_reaches 96 = .ok (.iinc 2 1, 3) := by decide +kernel
theorem dX6_reaches_99 : decode cX6_reaches 99 = .ok (.goto (-21), 3) := by decide +kernel
theorem dX6_reaches_102 : decode cX6_reaches 102 = .ok (.iconst 1, 1) := by decide +kernel
theorem dX6_reaches_103 : decode cX6_reaches 103 = .ok (.ireturn, 1) := by decide +kernel
theorem rz_loop (d : Nat) {g : GX} {V V0 : AH} {mo sz r : Nat} {rk kn ar ac X K : Int} {zs z : Nat → Int} {l : Nat → Nat} (p : RcP zs r l X K) (hmo : V mo = some (moO mo rk kn ar ac)) (hM : MN g mo V z) (hV : ∀ a, ¬ EN mo a → V a = V0 a) (q : RcI zs z l X K r) : ∀ (y j : Nat), j + y = 5 → (∀ i, i < j → z (450 + i) = 0) → AW g mX6_reaches (d + 3) 78 [(2, .int (iZ j)), (0, .ref mo), (1, .int (iZ 450))] [] V sz (VX V0 sz (EN mo) (ReQ g mo zs r))
  | 0, j, hy, h0 => by
    refine aw_iload_n dX6_reaches_78 (by rfl) ?_
    refine aw_iconstZ dX6_reaches_79 ?_
    refine aw_icmp_geZ (tgt := 102) dX6_reaches_80 (by decide) (by omega) (by omega) (fun hc_80 => ?_) (fun hc_80 => ?_)
    · refine aw_iconstZ dX6_reaches_102 ?_
      refine aw_iret dX6_reaches_103 rfl (by rfl) ?_
      exact ⟨rfl, rfl, rfl, hV, z, hM, q.2.2.2, Or.inl ⟨rfl, fun i hi => by have h8 := q.1 i hi; rw [h0 i (by omega)] at h8; omega⟩⟩
    · exact absurd hc_80 (by omega)
  | y + 1, j, hy, h0 => by
    have IH := fun j hj => @rz_loop d g V V0 mo sz r rk kn ar ac X K zs z l p hmo hM hV q y j hj
    obtain ⟨D, LN, SG, O1, O2, hA, hN⟩ := id hM
    obtain ⟨_, _, _, hsg, _, _, _⟩ := id (hN (450 + j) (by omega))
    refine aw_iload_n dX6_reaches_78 (by rfl) ?_
    refine aw_iconstZ dX6_reaches_79 ?_
    refine aw_icmp_geZ (tgt := 102) dX6_reaches_80 (by decide) (by omega) (by omega) (fun hc_80 => ?_) (fun hc_80 => ?_)
    · exact absurd hc_80 (by omega)
    · refine aw_aload_n dX6_reaches_83 (by rfl) (Or.inr ⟨_, rfl⟩) ?_
      refine aw_get fX6_17 dX6_reaches_84 hmo (by rfl) ?_
      refine aw_iload_n dX6_reaches_87 (by rfl) ?_
      refine aw_iload_n dX6_reaches_88 (by rfl) ?_
      refine aw_iaddZ dX6_reaches_89 ?_
      refine aw_ialdZ (450 + j) dX6_reaches_90 hA.2.2.1 (by omega) (by omega) (by omega) ?_
      refine aw_if_eqZ (tgt := 96) dX6_reaches_91 (by decide) (by rw [hsg]; exact sgn_R _) (fun hc_91 => ?_) (fun hc_91 => ?_)
      · have hz0 : z (450 + j) = 0 := sgn0.mp (by rw [← hsg]; exact hc_91)
        refine aw_iincZ dX6_reaches_96 (by rfl) (by decide) ?_
        refine aw_goto (tgt := 78) dX6_reaches_99 (by decide) ?_
        rw [show ((j : Int) + 1) = ((j + 1 : Nat) : Int) by omega]
        refine aw_pk [2, 0, 1] (by rfl) ?_
        exact IH (j + 1) (by omega) (fun i hi => (Nat.lt_or_eq_of_le (Nat.le_of_lt_succ hi)).elim (fun e => h0 i e) (fun e => e ▸ hz0))
      · have hnz : z (450 + j) ≠ 0 := fun e => hc_91 (by rw [hsg, e]; rfl)
        refine aw_iconstZ dX6_reaches_94 ?_
        refine aw_iret dX6_reaches_95 rfl (by rfl) ?_
        exact ⟨rfl, rfl, rfl, hV, z, hM, q.2.2.2, Or.inr ⟨rfl, q.nz p (by omega) hnz⟩⟩
theorem rk_loop (d : Nat) {g : GX} {V0 : AH} {mo sz r κ : Nat} {ar ac X K : Int} {zs RW : Nat → Int} {l : Nat → Nat} (p : RcP zs r l X K) (hra0 : V0 (mo + 6) = some (aIz g 11 RW)) (hl : ∀ i, i < r → RW i = (l i : Int)) (hSm : SmM (X * (1 + K) ^ 5)) : ∀ (y k : Nat), k + y = r → ∀ {V : AH} {z : Nat → Int}, V mo = some (moO mo r κ ar ac) → MN g mo V z → (∀ a, ¬ EN mo a → V a = V0 a) → RcI zs z l X K k → AW g mX6_reaches (d + 3) 2 [(2, .int (iZ k)), (0, .ref mo), (1, .int (iZ 450))] [] V sz (VX V0 sz (EN mo) (ReQ g mo zs r))
  | 0, k, hy, V, z, hmo, hM, hV, q => by
    have hr : r ≤ 5 := p.1.le_w
    refine aw_iload_n dX6_reaches_2 (by rfl) ?_
    refine aw_aload_n dX6_reaches_3 (by rfl) (Or.inr ⟨_, rfl⟩) ?_
    refine aw_get fX6_117 dX6_reaches_4 hmo (by rfl) ?_
    refine aw_icmp_geZ (tgt := 76) dX6_reaches_7 (by decide) (by omega) (by omega) (fun hc_7 => ?_) (fun hc_7 => ?_)
    · refine aw_iconstZ dX6_reaches_76 ?_
      refine aw_istore_n dX6_reaches_77 (by decide) ?_
      obtain rfl : k = r := by omega
      refine aw_pk [2, 0, 1] (by rfl) ?_
      exact rz_loop d p hmo hM hV q 5 0 (by omega) (fun i hi => absurd hi (by omega))
    · exact absurd hc_7 (by omega)
  | y + 1, k, hy, V, z, hmo, hM, hV, q => by
    have IH := fun k hk => @rk_loop d g V0 mo sz r κ ar ac X K zs RW l p hra0 hl hSm y k hk
    have hr : r ≤ 5 := p.1.le_w
    have hk : k < r := by omega
    have hlk := (p.1.1 k hk).1
    have hra := (hV (mo + 6) (by unfold EN; omega)).trans hra0
    have hzB : ∀ x, x < 150 → z x = zs x := fun x hx => q.2.2.2 x (by unfold InW; omega)
    have hSm' : SmM (X * (1 + K) ^ (k + 1)) := smT hSm (by
      have h5 := p.2.2.2.2
      rw [ab_pos (Int.mul_nonneg (by omega) (Int.pow_nonneg (by omega)))]
      exact Int.mul_le_mul_of_nonneg_left (pw_le (by omega) (by omega)) (by omega))
    refine aw_iload_n dX6_reaches_2 (by rfl) ?_
    refine aw_aload_n dX6_reaches_3 (by rfl) (Or.inr ⟨_, rfl⟩) ?_
    refine aw_get fX6_117 dX6_reaches_4 hmo (by rfl) ?_
    refine aw_icmp_geZ (tgt := 76) dX6_reaches_7 (by decide) (by omega) (by omega) (fun hc_7 => ?_) (fun hc_7 => ?_)
    · exact absurd hc_7 (by omega)
    · refine aw_aload_n dX6_reaches_10 (by rfl) (Or.inr ⟨_, rfl⟩) ?_
      refine aw_iload_n dX6_reaches_11 (by rfl) ?_
      refine aw_aload_n dX6_reaches_12 (by rfl) (Or.inr ⟨_, rfl⟩) ?_
      refine aw_get fX6_27 dX6_reaches_13 hmo (by rfl) ?_
      refine aw_iload_n dX6_reaches_16 (by rfl) ?_
      refine aw_ialdZ (k) dX6_reaches_17 hra (by omega) (by omega) (by omega) ?_
      rw [hl k hk]
      refine aw_iaddZ dX6_reaches_18 ?_
      refine aw_topi (y := ((450 + l k : Nat) : Int)) (by omega) ?_
      refine aw_bipushZ dX6_reaches_19 (by decide) ?_
      refine aw_iload_n dX6_reaches_21 (by rfl) ?_
      refine aw_imulZ dX6_reaches_22 ?_
      refine aw_aload_n dX6_reaches_23 (by rfl) (Or.inr ⟨_, rfl⟩) ?_
      refine aw_get fX6_27 dX6_reaches_24 hmo (by rfl) ?_
      refine aw_iload_n dX6_reaches_27 (by rfl) ?_
      refine aw_ialdZ (k) dX6_reaches_28 hra (by omega) (by omega) (by omega) ?_
      rw [hl k hk]
      refine aw_iaddZ dX6_reaches_29 ?_
      refine aw_topi (y := ((15 * k + l k : Nat) : Int)) (by omega) ?_
      refine aw_sipushZ dX6_reaches_30 (by decide) ?_
      refine aw_iload_n dX6_reaches_33 (by rfl) ?_
      refine aw_iaddZ dX6_reaches_34 ?_
      refine aw_topi (y := ((440 + k : Nat) : Int)) (by omega) ?_
      refine aw_callv vX6_113 dX6_reaches_35 hmo (m_floors g d (a := 450 + l k) (e := 15 * k + l k) (c := 440 + k) ⟨_, _, ar, ac, hmo⟩ hM (by omega) (by omega) (by omega) (by omega) (by omega) (by omega) (by rw [hzB _ (by omega)]; exact p.2.1 k hk)) (by rfl) (by rfl) (by omega) (Nat.le_of_ble_eq_true rfl) ?_
      rintro _ V1 _ _ _ ⟨rfl, rfl, rfl, hE1, rfl, z1, hM1, hz1⟩ -
      refine q0 ?_
      have hmo1 := (hE1 mo (by unfold EN; omega)).trans hmo
      rw [hzB (15 * k + l k) (by omega)] at hz1
      rw [hzB (15 * k + l k) (by omega)]
      refine aw_istore_n dX6_reaches_38 (by decide) ?_
      refine aw_iload_n dX6_reaches_39 (by rfl) ?_
      refine aw_if_neZ (tgt := 45) dX6_reaches_40 (by decide) (by split <;> omega) (fun hc_40 => ?_) (fun hc_40 => ?_)
      · have hdv : z (450 + l k) % zs (15 * k + l k) = 0 := Classical.byContradiction (fun e => hc_40 (if_neg e))
        refine aw_aload_n dX6_reaches_45 (by rfl) (Or.inr ⟨_, rfl⟩) ?_
        refine aw_sipushZ dX6_reaches_46 (by decide) ?_
        refine aw_iload_n dX6_reaches_49 (by rfl) ?_
        refine aw_iaddZ dX6_reaches_50 ?_
        refine aw_topi (y := ((440 + k : Nat) : Int)) (by omega) ?_
        refine aw_sipushZ dX6_reaches_51 (by decide) ?_
        refine aw_topi (y := ((416 : Nat) : Int)) (by omega) ?_
        refine aw_callv vX6_67 dX6_reaches_54 hmo1 (m_copies g (d + 2) (a := 440 + k) (c := 416) ⟨_, _, ar, ac, hmo1⟩ hM1 (by omega) (by omega)) (by rfl) (by rfl) (by omega) (Nat.le_of_ble_eq_true rfl) ?_
        rintro _ V2 _ _ _ ⟨rfl, rfl, rfl, hE2, rfl, hM2⟩ -
        refine q0 ?_
        have hmo2 := (hE2 mo (by unfold EN; omega)).trans hmo1
        refine aw_aload_n dX6_reaches_57 (by rfl) (Or.inr ⟨_, rfl⟩) ?_
        refine aw_iload_n dX6_reaches_58 (by rfl) ?_
        refine aw_topi (y := ((450 : Nat) : Int)) rfl ?_
        refine aw_bipushZ dX6_reaches_59 (by decide) ?_
        refine aw_iload_n dX6_reaches_61 (by rfl) ?_
        refine aw_imulZ dX6_reaches_62 ?_
        refine aw_topi (y := ((15 * k : Nat) : Int)) (by omega) ?_
        refine aw_iconstZ dX6_reaches_63 ?_
        
        refine aw_sipushZ dX6_reaches_64 (by decide) ?_
        refine aw_topi (y := ((416 : Nat) : Int)) (by omega) ?_
        refine aw_callv vX6_100 dX6_reaches_67 hmo2 (m_takesRow g d (a := 450) (e := 15 * k) (n := 5) (f := 416) ⟨_, _, ar, ac, hmo2⟩ hM2 (by omega) (by omega) (by omega) (by omega) (fun j hj => by rw [upF_self, hz1 _ (by omega), upF_self, upF_ne _ _ (by omega), hz1 _ (by omega), upF_ne _ _ (by omega), hzB (15 * k + j) (by omega)]; exact smT hSm' (RcI.bd p q hk hj).1) (fun j hj => by rw [upF_ne _ _ (by omega), hz1 _ (by omega), upF_ne _ _ (by omega), upF_self, hz1 _ (by omega), upF_self, upF_ne _ _ (by omega), hz1 _ (by omega), upF_ne _ _ (by omega), hzB (15 * k + j) (by omega)]; exact smT hSm' (RcI.bd p q hk hj).2)) (by rfl) (by rfl) (by omega) (Nat.le_of_ble_eq_true rfl) ?_
        rintro _ V3 _ _ _ ⟨rfl, rfl, rfl, hE3, rfl, z3, hM3, hTk⟩ -
        refine q0 ?_
        refine aw_iincZ dX6_reaches_70 (by rfl) (by decide) ?_
        refine aw_goto (tgt := 2) dX6_reaches_73 (by decide) ?_
        rw [show ((k : Int) + 1) = ((k + 1 : Nat) : Int) by omega]
        refine aw_pk [2, 0, 1] (by rfl) ?_
        refine IH (k + 1) (by omega) ((hE3 mo (by unfold EN; omega)).trans hmo2) hM3 (fun a ha => (hE3 a ha).trans ((hE2 a ha).trans ((hE1 a ha).trans (hV a ha)))) (RcI.step p q hk hr hdv (fun x h1 h2 h3 => ?_) ?_ (fun j hj => ?_))
        · rw [hTk x (by omega), if_neg (by omega), upF_ne _ _ (by omega), hz1 x (by omega), upF_ne _ _ h1]
        · rw [hTk _ (by omega), if_neg (by omega), upF_ne _ _ (by omega), hz1 _ (by omega), upF_self]
        · rw [hTk _ (by omega), if_pos (by omega), upF_ne _ _ (by omega), hz1 _ (by omega), upF_ne _ _ (by omega), upF_self, hz1 _ (by omega), upF_self, show 15 * k + (450 + j - 450) = 15 * k + j by omega, upF_ne _ _ (by omega), hz1 _ (by omega), upF_ne _ _ (by omega), hzB (15 * k + j) (by omega)]
      · have hdv : ¬ z (450 + l k) % zs (15 * k + l k) = 0 := fun e => by rw [if_pos e] at hc_40; omega
        refine aw_iconstZ dX6_reaches_43 ?_
        refine aw_iret dX6_reaches_44 rfl (by rfl) ?_
        exact ⟨rfl, rfl, rfl, fun a ha => (hE1 a ha).trans (hV a ha), z1, hM1, fun x hx => by unfold InW at hx; rw [hz1 x (by omega), upF_ne _ _ (by omega)]; exact q.2.2.2 x (by unfold InW; omega), Or.inr ⟨rfl, q.no p hk hdv⟩⟩
theorem m_reaches (g : GX) (d : Nat) {V : AH} {mo sz r κ : Nat} {ar ac X K : Int} {zs RW : Nat → Int} {l : Nat → Nat} (p : RcP zs r l X K) (hmo : V mo = some (moO mo r κ ar ac)) (hM : MN g mo V zs) (hra : V (mo + 6) = some (aIz g 11 RW)) (hl : ∀ i, i < r → RW i = (l i : Int)) (hSm : SmM (X * (1 + K) ^ 5)) : AMet g mX6_reaches (d + 3) [.ref mo, .int (iZ 450)] V sz (VX V sz (EN mo) (ReQ g mo zs r)) := by
  refine AMet.of rfl rfl (Nat.le_of_ble_eq_true rfl) ?_
  show AW g mX6_reaches (d + 3) 0 [(0, .ref mo), (1, .int (iZ 450))] [] V sz _
  refine aw_iconstZ dX6_reaches_0 ?_
  refine aw_istore_n dX6_reaches_1 (by decide) ?_
  refine aw_pk [2, 0, 1] (by rfl) ?_
  exact rk_loop d p hra hl hSm r 0 (by omega) hmo hM (fun _ _ => rfl) (RcI.zero p)

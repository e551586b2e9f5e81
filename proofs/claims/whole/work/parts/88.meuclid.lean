/-! ===== the reference: euclid ===== -/
/-- two rows made of two others and back -/
def Uni (n : Nat) (P R P' R' : Nat → Int) : Prop := ∃ s t u v s' t' u' v' : Int, ∀ j, j < n → P' j = s * P j + t * R j ∧ R' j = u * P j + v * R j ∧ P j = s' * P' j + t' * R' j ∧ R j = u' * P' j + v' * R' j
theorem Uni.rf {n : Nat} {P R : Nat → Int} : Uni n P R P R := ⟨1, 0, 0, 1, 1, 0, 0, 1, fun j _ => by omega⟩
theorem lin2 (a b s t u v x y : Int) : a * (s * x + t * y) + b * (u * x + v * y) = (a * s + b * u) * x + (a * t + b * v) * y := by
  rw [Int.mul_add, Int.mul_add, Int.add_mul, Int.add_mul, ← Int.mul_assoc, ← Int.mul_assoc, ← Int.mul_assoc, ← Int.mul_assoc]
  omega
theorem Uni.tr {n : Nat} {P R P1 R1 P2 R2 : Nat → Int} (h : Uni n P R P1 R1) (k : Uni n P1 R1 P2 R2) : Uni n P R P2 R2 := by
  obtain ⟨s, t, u, v, s', t', u', v', h⟩ := h
  obtain ⟨a, b, c, e, a', b', c', e', k⟩ := k
  refine ⟨a * s + b * u, a * t + b * v, c * s + e * u, c * t + e * v, s' * a' + t' * c', s' * b' + t' * e', u' * a' + v' * c', u' * b' + v' * e', fun j hj => ?_⟩
  obtain ⟨h1, h2, h3, h4⟩ := h j hj
  obtain ⟨k1, k2, k3, k4⟩ := k j hj
  refine ⟨?_, ?_, ?_, ?_⟩
  · rw [k1, h1, h2, lin2]
  · rw [k2, h1, h2, lin2]
  · rw [h3, k3, k4, lin2]
  · rw [h4, k3, k4, lin2]
theorem Uni.step {n : Nat} {P R P' R' : Nat → Int} {q : Int} (h1 : ∀ j, j < n → P' j = R j) (h2 : ∀ j, j < n → R' j = P j - q * R j) : Uni n P R P' R' := ⟨0, 1, 1, -q, q, 1, 1, 0, fun j hj => by rw [h1 j hj, h2 j hj, Int.neg_mul]; omega⟩
theorem Uni.neg {n : Nat} {P R P' R' : Nat → Int} (h1 : ∀ j, j < n → P' j = - P j) (h2 : ∀ j, j < n → R' j = R j) : Uni n P R P' R' := ⟨-1, 0, 0, 1, -1, 0, 0, 1, fun j hj => by rw [h1 j hj, h2 j hj]; omega⟩
theorem eu_rem {p r : Int} (hr : r ≠ 0) : ab p = ab (p.tdiv r) * ab r + ab (p - p.tdiv r * r) ∧ ab (p - p.tdiv r * r) < ab r ∧ ab (p.tdiv r) ≤ ab p := by
  have h1 : p - p.tdiv r * r = p.tmod r := by
    have := Int.tmod_add_mul_tdiv p r
    rw [Int.mul_comm] at this
    omega
  have h2 := Nat.div_add_mod p.natAbs r.natAbs
  have h3 : (p.tmod r).natAbs = p.natAbs % r.natAbs := Int.natAbs_tmod p r
  have h4 : (p.tdiv r).natAbs = p.natAbs / r.natAbs := Int.natAbs_tdiv p r
  have h5 := Nat.mod_lt p.natAbs (show 0 < r.natAbs by omega)
  have h6 := Nat.div_le_self p.natAbs r.natAbs
  rw [h1]
  unfold ab
  rw [h3, h4]
  refine ⟨?_, by omega, by omega⟩
  rw [← Int.natCast_mul, ← Int.natCast_add, Nat.mul_comm]
  omega
def EuI (n c : Nat) (T P R : Nat → Int) : Prop := P c ≠ 0 ∧ ∀ j, j < n → ab (P j) * ab (R c) + ab (R j) * ab (P c) ≤ T j ∧ ab (P j) ≤ T j ∧ ab (R j) ≤ T j
theorem EuI.step {n c : Nat} {T P R P' R' : Nat → Int} (hc : c < n) (h : EuI n c T P R) (hr : R c ≠ 0) (h1 : ∀ j, j < n → P' j = R j) (h2 : ∀ j, j < n → R' j = P j - (P c).tdiv (R c) * R j) : EuI n c T P' R' ∧ ab (R' c) < ab (R c) ∧ ∀ j, j < n → ab ((P c).tdiv (R c) * R j) ≤ T j := by
  obtain ⟨e1, e2, e3⟩ := eu_rem (p := P c) hr
  have hr1 : 1 ≤ ab (R c) := by unfold ab; omega
  have key : ∀ j, j < n → ab (R j) * ab (P c - (P c).tdiv (R c) * R c) + ab (P j - (P c).tdiv (R c) * R j) * ab (R c) ≤ T j := fun j hj => by
    have k1 := (h.2 j hj).1
    have k2 := ab_sub (P j) ((P c).tdiv (R c) * R j)
    rw [ab_mul] at k2
    have k3 : ab (P j - (P c).tdiv (R c) * R j) * ab (R c) ≤ (ab (P j) + ab ((P c).tdiv (R c)) * ab (R j)) * ab (R c) := Int.mul_le_mul_of_nonneg_right k2 (ab0 _)
    rw [Int.add_mul] at k3
    rw [e1, Int.mul_add] at k1
    have k4 : ab (R j) * (ab ((P c).tdiv (R c)) * ab (R c)) = ab ((P c).tdiv (R c)) * ab (R j) * ab (R c) := by rw [← Int.mul_assoc, Int.mul_comm (ab (R j))]
    omega
  refine ⟨⟨by rw [h1 c hc]; exact hr, fun j hj => ?_⟩, by rw [h2 c hc]; exact e2, fun j hj => ?_⟩
  · have k := key j hj
    rw [h1 j hj, h1 c hc, h2 j hj, h2 c hc]
    refine ⟨k, (h.2 j hj).2.2, ?_⟩
    have k1 : ab (P j - (P c).tdiv (R c) * R j) * 1 ≤ ab (P j - (P c).tdiv (R c) * R j) * ab (R c) := Int.mul_le_mul_of_nonneg_left hr1 (ab0 _)
    have k2 : 0 ≤ ab (R j) * ab (P c - (P c).tdiv (R c) * R c) := Int.mul_nonneg (ab0 _) (ab0 _)
    omega
  · rw [ab_mul]
    have k1 : ab ((P c).tdiv (R c)) * ab (R j) ≤ ab (P c) * ab (R j) := Int.mul_le_mul_of_nonneg_right e3 (ab0 _)
    have k2 := (h.2 j hj).1
    have k3 : 0 ≤ ab (P j) * ab (R c) := Int.mul_nonneg (ab0 _) (ab0 _)
    rw [Int.mul_comm (ab (P c))] at k1
    omega
theorem smT {T x : Int} (hT : SmM T) (h : ab x ≤ T) : SmM x := by
  unfold SmM ab at *
  omega
def Frm (zs z' : Nat → Int) (In : Nat → Prop) : Prop := ∀ q, ¬ In q → z' q = zs q
def InE (a e n : Nat) : Nat → Prop := fun q => (a ≤ q ∧ q < a + n) ∨ (e ≤ q ∧ q < e + n) ∨ (415 ≤ q ∧ q ≤ 418)
def EuQ (g : GX) (mo : Nat) (zs : Nat → Int) (T : Nat → Int) (a e n c : Nat) : Option Value → AH → Prop := fun r V' => none = r ∧ ∃ z', MN g mo V' z' ∧ Frm zs z' (InE a e n) ∧ z' (e + c) = 0 ∧ 0 < z' (a + c) ∧ (∀ j, j < n → ab (z' (a + j)) ≤ T j ∧ ab (z' (e + j)) ≤ T j) ∧ Uni n (fun j => zs (a + j)) (fun j => zs (e + j)) (fun j => z' (a + j)) (fun j => z' (e + j))
abbrev mX6_euclid : MI := (yX6_euclid, cX6_euclid, 5, none, noX)
theorem dX6_euclid_0 : decode cX6_euclid 0 = .ok (.aload_n 0, 1) := by decide +kernel
theorem dX6_euclid_1 : decode cX6_euclid 1 = .ok (.getfield 17, 3) := by decide +kernel
theorem dX6_euclid_4 : decode cX6_euclid 4 = .ok (.iload_n 2, 1) := by decide +kernel
theorem dX6_euclid_5 : decode cX6_euclid 5 = .ok (.iload 4, 2) := by decide +kernel
theorem dX6_euclid_7 : decode cX6_euclid 7 = .ok (.iadd, 1) := by decide +kernel
theorem dX6_euclid_8 : decode cX6_euclid 8 = .ok (.iaload, 1) := by decide +kernel
theorem dX6_euclid_9 : decode cX6_euclid 9 = .ok (.ifCond .eq 38, 3) := by decide +kernel
theorem dX6_euclid_12 : decode cX6_euclid 12 = .ok (.aload_n 0, 1) := by decide +kernel
theorem dX6_euclid_13 : decode cX6_euclid 13 = .ok (.iload_n 1, 1) := by decide +kernel
theorem dX6_euclid_14 : decode cX6_euclid 14 = .ok (.iload 4, 2) := by decide +kernel
theorem dX6_euclid_16 : decode cX6_euclid 16 = .ok (.iadd, 1) := by decide +kernel
theorem dX6_euclid_17 : decode cX6_euclid 17 = .ok (.iload_n 2, 1) := by decide +kernel
theorem dX6_euclid_18 : decode cX6_euclid 18 = .ok (.iload 4, 2) := by decide +kernel
theorem dX6_euclid_20 : decode cX6_euclid 20 = .ok (.iadd, 1) := by decide +kernel
theorem dX6_euclid_21 : decode cX6_euclid 21 = .ok (.sipush 416, 3) := by decide +kernel
theorem dX6_euclid_24 : decode cX6_euclid 24 = .ok (.invokevirtual 91, 3) := by decide +kernel
theorem dX6_euclid_27 : decode cX6_euclid 27 = .ok (.aload_n 0, 1) := by decide +kernel
theorem dX6_euclid_28 : decode cX6_euclid 28 = .ok (.iload_n 1, 1) := by decide +kernel
theorem dX6_euclid_29 : decode cX6_euclid 29 = .ok (.iload_n 2, 1) := by decide +kernel
theorem dX6_euclid_30 : decode cX6_euclid 30 = .ok (.iload_n 3, 1) := by decide +kernel
theorem dX6_euclid_31 : decode cX6_euclid 31 = .ok (.sipush 416, 3) := by decide +kernel
theorem dX6_euclid_34 : decode cX6_euclid 34 = .ok (.invokevirtual 100, 3) := by decide +kernel
theorem dX6_euclid_37 : decode cX6_euclid 37 = .ok (.aload_n 0, 1) := by decide +kernel
theorem dX6_euclid_38 : decode cX6_euclid 38 = .ok (.iload_n 1, 1) := by decide +kernel
theorem dX6_euclid_39 : decode cX6_euclid 39 = .ok (.iload_n 2, 1) := by decide +kernel
theorem dX6_euclid_40 : decode cX6_euclid 40 = .ok (.iload_n 3, 1) := by decide +kernel
theorem dX6_euclid_41 : decode cX6_euclid 41 = .ok (.invokevirtual 104, 3) := by decide +kernel
theorem dX6_euclid_44 : decode cX6_euclid 44 = .ok (.goto (-44), 3) := by decide +kernel
theorem dX6_euclid_47 : decode cX6_euclid 47 = .ok (.aload_n 0, 1) := by decide +kernel
theorem dX6_euclid_48 : decode cX6_euclid 48 = .ok (.getfield 17, 3) := by decide +kernel
theorem dX6_euclid_51 : decode cX6_euclid 51 = .ok (.iload_n 1, 1) := by decide +kernel
theorem dX6_euclid_52 : decode cX6_euclid 52 = .ok (.iload 4, 2) := by decide +kernel
theorem dX6_euclid_54 : decode cX6_euclid 54 = .ok (.iadd, 1) := by decide +kernel
theorem dX6_euclid_55 : decode cX6_euclid 55 = .ok (.iaload, 1) := by decide +kernel
theorem dX6_euclid_56 : decode cX6_euclid 56 = .ok (.ifCond .ge 9, 3) := by decide +kernel
theorem dX6_euclid_59 : decode cX6_euclid 59 = .ok (.aload_n 0, 1) := by decide +kernel
theorem dX6_euclid_60 : decode cX6_euclid 60 = .ok (.iload_n 1, 1) := by decide +kernel
theorem dX6_euclid_61 : decode cX6_euclid 61 = .ok (.iload_n 3, 1) := by decide +kernel
theorem dX6_euclid_62 : decode cX6_euclid 62 = .ok (.invokevirtual 107, 3) := by decide +kernel
theorem dX6_euclid_65 : decode cX6_euclid 65 = .ok (.return_, 1) := by decide +kernel
theorem eu_loop (g : GX) (d : Nat) {mo sz a e n c : Nat} {rk kn ar ac : Int} {zs T : Nat → Int} (hcn : c < n) (hd : a + n ≤ e ∨ e + n ≤ a) (h1 : a + n ≤ 415) (h2 : e + n ≤ 415) (hT : ∀ j, j < n → SmM (T j)) : ∀ (x : Nat) {V : AH} {z' : Nat → Int}, (z' (e + c)).natAbs ≤ x → V mo = some (moO mo rk kn ar ac) → MN g mo V z' → Frm zs z' (InE a e n) → EuI n c T (fun j => z' (a + j)) (fun j => z' (e + j)) → Uni n (fun j => zs (a + j)) (fun j => zs (e + j)) (fun j => z' (a + j)) (fun j => z' (e + j)) → AW g mX6_euclid (d + 3) 0 [(0, .ref mo), (1, .int (iZ a)), (2, .int (iZ e)), (3, .int (iZ n)), (4, .int (iZ c))] [] V sz (VX V sz (EN mo) (EuQ g mo zs T a e n c))
  | 0, V, z', hx, hmo, hM, hF, hI, hU => by
    obtain ⟨D, LN, SG, O1, O2, hA, h0⟩ := id hM
    obtain ⟨_, _, _, hsa, _, _, _⟩ := id (h0 (a + c) (by omega))
    obtain ⟨_, hln, _, hse, _, _, _⟩ := id (h0 (e + c) (by omega))
    have END : z' (e + c) = 0 → AW g mX6_euclid (d + 3) 47 [(0, .ref mo), (1, .int (iZ a)), (2, .int (iZ e)), (3, .int (iZ n)), (4, .int (iZ c))] [] V sz (VX V sz (EN mo) (EuQ g mo zs T a e n c)) := fun hz0 => by
      refine aw_aload_n dX6_euclid_47 (by rfl) (Or.inr ⟨_, rfl⟩) ?_
      refine aw_get fX6_17 dX6_euclid_48 hmo (by rfl) ?_
      refine aw_iload_n dX6_euclid_51 (by rfl) ?_
      refine aw_iload dX6_euclid_52 (by rfl) ?_
      refine aw_iaddZ dX6_euclid_54 ?_
      refine aw_ialdZ (a + c) dX6_euclid_55 hA.2.2.1 (by omega) (by omega) (by omega) ?_
      refine aw_if_geZ (tgt := 65) dX6_euclid_56 (by decide) (by rw [hsa]; exact sgn_R _) (fun hc_56 => ?_) (fun hc_56 => ?_)
      · have hs : 0 ≤ z' (a + c) := by rw [hsa] at hc_56; exact Int.sign_nonneg_iff.mp hc_56
        refine aw_ret dX6_euclid_65 rfl ?_
        first
        | exact VX.ret ⟨rfl, z', hM, hF, hz0, by have h9 : z' (a + c) ≠ 0 := hI.1; omega, fun j hj => ⟨(hI.2 j hj).2.1, (hI.2 j hj).2.2⟩, hU⟩
        | refine VX.ret ⟨rfl, _, hM1, fun q hq => ?_, ?_, ?_, fun j hj => ?_, hU.tr (Uni.neg (fun j hj => if_pos (by omega)) (fun j hj => if_neg (by omega)))⟩
          · show (if a ≤ q ∧ q < a + n then - z' q else z' q) = zs q
            rw [if_neg (fun w => hq (Or.inl w))]
            exact hF q hq
          · show (if a ≤ e + c ∧ e + c < a + n then - z' (e + c) else z' (e + c)) = 0
            rw [if_neg (by omega)]; exact hz0
          · show 0 < (if a ≤ a + c ∧ a + c < a + n then - z' (a + c) else z' (a + c))
            rw [if_pos (by omega)]; omega
          · show ab (if a ≤ a + j ∧ a + j < a + n then - z' (a + j) else z' (a + j)) ≤ T j ∧ ab (if a ≤ e + j ∧ e + j < a + n then - z' (e + j) else z' (e + j)) ≤ T j
            rw [if_pos (by omega), if_neg (by omega), ab_neg]
            exact ⟨(hI.2 j hj).2.1, (hI.2 j hj).2.2⟩
      · have hs : z' (a + c) < 0 := by rw [hsa] at hc_56; exact Int.lt_of_not_ge (fun q => hc_56 (Int.sign_nonneg_iff.mpr q))
        refine aw_aload_n dX6_euclid_59 (by rfl) (Or.inr ⟨_, rfl⟩) ?_
        refine aw_iload_n dX6_euclid_60 (by rfl) ?_
        refine aw_iload_n dX6_euclid_61 (by rfl) ?_
        refine aw_callv vX6_107 dX6_euclid_62 hmo (m_turnsRow g (d + 2) (a := a) (n := n) ⟨rk, kn, ar, ac, hmo⟩ hM (by omega)) (by rfl) (by rfl) (by omega) (Nat.le_of_ble_eq_true rfl) ?_
        rintro _ V1 _ _ _ ⟨rfl, rfl, rfl, hE1, rfl, hM1⟩ -
        refine VX.call hE1 ?_
        refine aw_ret dX6_euclid_65 rfl ?_
        first
        | exact VX.ret ⟨rfl, z', hM, hF, hz0, by have h9 : z' (a + c) ≠ 0 := hI.1; omega, fun j hj => ⟨(hI.2 j hj).2.1, (hI.2 j hj).2.2⟩, hU⟩
        | refine VX.ret ⟨rfl, _, hM1, fun q hq => ?_, ?_, ?_, fun j hj => ?_, hU.tr (Uni.neg (fun j hj => if_pos (by omega)) (fun j hj => if_neg (by omega)))⟩
          · show (if a ≤ q ∧ q < a + n then - z' q else z' q) = zs q
            rw [if_neg (fun w => hq (Or.inl w))]
            exact hF q hq
          · show (if a ≤ e + c ∧ e + c < a + n then - z' (e + c) else z' (e + c)) = 0
            rw [if_neg (by omega)]; exact hz0
          · show 0 < (if a ≤ a + c ∧ a + c < a + n then - z' (a + c) else z' (a + c))
            rw [if_pos (by omega)]; omega
          · show ab (if a ≤ a + j ∧ a + j < a + n then - z' (a + j) else z' (a + j)) ≤ T j ∧ ab (if a ≤ e + j ∧ e + j < a + n then - z' (e + j) else z' (e + j)) ≤ T j
            rw [if_pos (by omega), if_neg (by omega), ab_neg]
            exact ⟨(hI.2 j hj).2.1, (hI.2 j hj).2.2⟩
    refine aw_aload_n dX6_euclid_0 (by rfl) (Or.inr ⟨_, rfl⟩) ?_
    refine aw_get fX6_17 dX6_euclid_1 hmo (by rfl) ?_
    refine aw_iload_n dX6_euclid_4 (by rfl) ?_
    refine aw_iload dX6_euclid_5 (by rfl) ?_
    refine aw_iaddZ dX6_euclid_7 ?_
    refine aw_ialdZ (e + c) dX6_euclid_8 hA.2.2.1 (by omega) (by omega) (by omega) ?_
    refine aw_if_eqZ (tgt := 47) dX6_euclid_9 (by decide) (by rw [hse]; exact sgn_R _) (fun hc_9 => ?_) (fun hc_9 => ?_)
    · have hz0 : z' (e + c) = 0 := sgn0.mp (by rw [← hse]; exact hc_9)
      exact END hz0
    · exact absurd (by rw [hse, show z' (e + c) = 0 by omega]; rfl) hc_9
  | x + 1, V, z', hx, hmo, hM, hF, hI, hU => by
    have IH := @eu_loop g d mo sz a e n c rk kn ar ac zs T hcn hd h1 h2 hT x
    obtain ⟨D, LN, SG, O1, O2, hA, h0⟩ := id hM
    obtain ⟨_, _, _, hsa, _, _, _⟩ := id (h0 (a + c) (by omega))
    obtain ⟨_, hln, _, hse, _, _, _⟩ := id (h0 (e + c) (by omega))
    have END : z' (e + c) = 0 → AW g mX6_euclid (d + 3) 47 [(0, .ref mo), (1, .int (iZ a)), (2, .int (iZ e)), (3, .int (iZ n)), (4, .int (iZ c))] [] V sz (VX V sz (EN mo) (EuQ g mo zs T a e n c)) := fun hz0 => by
      refine aw_aload_n dX6_euclid_47 (by rfl) (Or.inr ⟨_, rfl⟩) ?_
      refine aw_get fX6_17 dX6_euclid_48 hmo (by rfl) ?_
      refine aw_iload_n dX6_euclid_51 (by rfl) ?_
      refine aw_iload dX6_euclid_52 (by rfl) ?_
      refine aw_iaddZ dX6_euclid_54 ?_
      refine aw_ialdZ (a + c) dX6_euclid_55 hA.2.2.1 (by omega) (by omega) (by omega) ?_
      refine aw_if_geZ (tgt := 65) dX6_euclid_56 (by decide) (by rw [hsa]; exact sgn_R _) (fun hc_56 => ?_) (fun hc_56 => ?_)
      · have hs : 0 ≤ z' (a + c) := by rw [hsa] at hc_56; exact Int.sign_nonneg_iff.mp hc_56
        refine aw_ret dX6_euclid_65 rfl ?_
        first
        | exact VX.ret ⟨rfl, z', hM, hF, hz0, by have h9 : z' (a + c) ≠ 0 := hI.1; omega, fun j hj => ⟨(hI.2 j hj).2.1, (hI.2 j hj).2.2⟩, hU⟩
        | refine VX.ret ⟨rfl, _, hM1, fun q hq => ?_, ?_, ?_, fun j hj => ?_, hU.tr (Uni.neg (fun j hj => if_pos (by omega)) (fun j hj => if_neg (by omega)))⟩
          · show (if a ≤ q ∧ q < a + n then - z' q else z' q) = zs q
            rw [if_neg (fun w => hq (Or.inl w))]
            exact hF q hq
          · show (if a ≤ e + c ∧ e + c < a + n then - z' (e + c) else z' (e + c)) = 0
            rw [if_neg (by omega)]; exact hz0
          · show 0 < (if a ≤ a + c ∧ a + c < a + n then - z' (a + c) else z' (a + c))
            rw [if_pos (by omega)]; omega
          · show ab (if a ≤ a + j ∧ a + j < a + n then - z' (a + j) else z' (a + j)) ≤ T j ∧ ab (if a ≤ e + j ∧ e + j < a + n then - z' (e + j) else z' (e + j)) ≤ T j
            rw [if_pos (by omega), if_neg (by omega), ab_neg]
            exact ⟨(hI.2 j hj).2.1, (hI.2 j hj).2.2⟩
      · have hs : z' (a + c) < 0 := by rw [hsa] at hc_56; exact Int.lt_of_not_ge (fun q => hc_56 (Int.sign_nonneg_iff.mpr q))
        refine aw_aload_n dX6_euclid_59 (by rfl) (Or.inr ⟨_, rfl⟩) ?_
        refine aw_iload_n dX6_euclid_60 (by rfl) ?_
        refine aw_iload_n dX6_euclid_61 (by rfl) ?_
        refine aw_callv vX6_107 dX6_euclid_62 hmo (m_turnsRow g (d + 2) (a := a) (n := n) ⟨rk, kn, ar, ac, hmo⟩ hM (by omega)) (by rfl) (by rfl) (by omega) (Nat.le_of_ble_eq_true rfl) ?_
        rintro _ V1 _ _ _ ⟨rfl, rfl, rfl, hE1, rfl, hM1⟩ -
        refine VX.call hE1 ?_
        refine aw_ret dX6_euclid_65 rfl ?_
        first
        | exact VX.ret ⟨rfl, z', hM, hF, hz0, by have h9 : z' (a + c) ≠ 0 := hI.1; omega, fun j hj => ⟨(hI.2 j hj).2.1, (hI.2 j hj).2.2⟩, hU⟩
        | refine VX.ret ⟨rfl, _, hM1, fun q hq => ?_, ?_, ?_, fun j hj => ?_, hU.tr (Uni.neg (fun j hj => if_pos (by omega)) (fun j hj => if_neg (by omega)))⟩
          · show (if a ≤ q ∧ q < a + n then - z' q else z' q) = zs q
            rw [if_neg (fun w => hq (Or.inl w))]
            exact hF q hq
          · show (if a ≤ e + c ∧ e + c < a + n then - z' (e + c) else z' (e + c)) = 0
            rw [if_neg (by omega)]; exact hz0
          · show 0 < (if a ≤ a + c ∧ a + c < a + n then - z' (a + c) else z' (a + c))
            rw [if_pos (by omega)]; omega
          · show ab (if a ≤ a + j ∧ a + j < a + n then - z' (a + j) else z' (a + j)) ≤ T j ∧ ab (if a ≤ e + j ∧ e + j < a + n then - z' (e + j) else z' (e + j)) ≤ T j
            rw [if_pos (by omega), if_neg (by omega), ab_neg]
            exact ⟨(hI.2 j hj).2.1, (hI.2 j hj).2.2⟩
    refine aw_aload_n dX6_euclid_0 (by rfl) (Or.inr ⟨_, rfl⟩) ?_
    refine aw_get fX6_17 dX6_euclid_1 hmo (by rfl) ?_
    refine aw_iload_n dX6_euclid_4 (by rfl) ?_
    refine aw_iload dX6_euclid_5 (by rfl) ?_
    refine aw_iaddZ dX6_euclid_7 ?_
    refine aw_ialdZ (e + c) dX6_euclid_8 hA.2.2.1 (by omega) (by omega) (by omega) ?_
    refine aw_if_eqZ (tgt := 47) dX6_euclid_9 (by decide) (by rw [hse]; exact sgn_R _) (fun hc_9 => ?_) (fun hc_9 => ?_)
    · have hz0 : z' (e + c) = 0 := sgn0.mp (by rw [← hse]; exact hc_9)
      exact END hz0
    · have hrc : z' (e + c) ≠ 0 := fun q => hc_9 (by rw [hse, q]; rfl)
      have hSt := hI.step (P' := fun j => z' (e + j)) (R' := fun j => z' (a + j) - (z' (a + c)).tdiv (z' (e + c)) * z' (e + j)) hcn hrc (fun _ _ => rfl) (fun _ _ => rfl)
      refine aw_aload_n dX6_euclid_12 (by rfl) (Or.inr ⟨_, rfl⟩) ?_
      refine aw_iload_n dX6_euclid_13 (by rfl) ?_
      refine aw_iload dX6_euclid_14 (by rfl) ?_
      refine aw_iaddZ dX6_euclid_16 ?_
      refine aw_topi (y := ((a + c : Nat) : Int)) (by omega) ?_
      refine aw_iload_n dX6_euclid_17 (by rfl) ?_
      refine aw_iload dX6_euclid_18 (by rfl) ?_
      refine aw_iaddZ dX6_euclid_20 ?_
      refine aw_topi (y := ((e + c : Nat) : Int)) (by omega) ?_
      refine aw_sipushZ dX6_euclid_21 (by decide) ?_
      refine aw_topi (y := ((416 : Nat) : Int)) (by omega) ?_
      refine aw_callv vX6_91 dX6_euclid_24 hmo (m_divides g (d + 1) (a := a + c) (e := e + c) (c := 416) hmo hA h0 (by omega) (by omega) (by omega) (by omega) (by omega) hrc hln) (by rfl) (by rfl) (by omega) (Nat.le_of_ble_eq_true rfl) ?_
      rintro _ V1 _ _ _ ⟨rfl, rfl, rfl, hE1, rfl, D1, LN1, SG1, X1, X2, hA1, hN1, -, -⟩ -
      refine VX.call hE1 ?_
      have hmo1 := (hE1 mo (by unfold EN; omega)).trans hmo
      have hM1 : MN g mo V1 _ := ⟨D1, LN1, SG1, X1, X2, hA1, hN1⟩
      refine aw_aload_n dX6_euclid_27 (by rfl) (Or.inr ⟨_, rfl⟩) ?_
      refine aw_iload_n dX6_euclid_28 (by rfl) ?_
      refine aw_iload_n dX6_euclid_29 (by rfl) ?_
      refine aw_iload_n dX6_euclid_30 (by rfl) ?_
      refine aw_sipushZ dX6_euclid_31 (by decide) ?_
      refine aw_topi (y := ((416 : Nat) : Int)) (by omega) ?_
      refine aw_callv vX6_100 dX6_euclid_34 hmo1 (m_takesRow g d (a := a) (e := e) (n := n) (f := 416) ⟨rk, kn, ar, ac, hmo1⟩ hM1 hd (by omega) (by omega) (by omega) (fun k hk => by rw [upF_self, upF_ne _ _ (by omega)]; exact smT (hT k hk) (hSt.2.2 k hk)) (fun k hk => by rw [upF_self, upF_ne _ _ (by omega), upF_ne _ _ (by omega)]; exact smT (hT k hk) ((hSt.1.2 k hk).2.2))) (by rfl) (by rfl) (by omega) (Nat.le_of_ble_eq_true rfl) ?_
      rintro _ V2 _ _ _ ⟨rfl, rfl, rfl, hE2, rfl, z2, hM2, hTk⟩ -
      refine VX.call hE2 ?_
      have hmo2 := (hE2 mo (by unfold EN; omega)).trans hmo1
      refine aw_aload_n dX6_euclid_37 (by rfl) (Or.inr ⟨_, rfl⟩) ?_
      refine aw_iload_n dX6_euclid_38 (by rfl) ?_
      refine aw_iload_n dX6_euclid_39 (by rfl) ?_
      refine aw_iload_n dX6_euclid_40 (by rfl) ?_
      refine aw_callv vX6_104 dX6_euclid_41 hmo2 (m_swaps g (d + 1) (a := a) (e := e) (n := n) ⟨rk, kn, ar, ac, hmo2⟩ hM2 hd (by omega) (by omega)) (by rfl) (by rfl) (by omega) (Nat.le_of_ble_eq_true rfl) ?_
      rintro _ V3 _ _ _ ⟨rfl, rfl, rfl, hE3, rfl, z3, hM3, hSw⟩ -
      refine VX.call hE3 ?_
      have hmo3 := (hE3 mo (by unfold EN; omega)).trans hmo2
      have p3 : ∀ j, j < n → z3 (a + j) = z' (e + j) := fun j hj => by
        rw [hSw (a + j) (by omega), if_pos (by omega), show e + (a + j - a) = e + j by omega, hTk (e + j) (by omega), if_neg (by omega), upF_ne _ _ (by omega)]
      have r3 : ∀ j, j < n → z3 (e + j) = z' (a + j) - (z' (a + c)).tdiv (z' (e + c)) * z' (e + j) := fun j hj => by
        rw [hSw (e + j) (by omega), if_neg (by omega), if_pos (by omega), show a + (e + j - e) = a + j by omega, hTk (a + j) (by omega), if_pos (by omega), upF_ne _ _ (by omega), upF_self, show e + (a + j - a) = e + j by omega, upF_ne _ _ (by omega)]
      have f3 : Frm z' z3 (InE a e n) := fun q hq => by
        unfold InE at hq
        rw [hSw q (by omega), if_neg (by omega), if_neg (by omega), hTk q (by omega), if_neg (by omega), upF_ne _ _ (by omega)]
      obtain ⟨i3, l3, -⟩ := hI.step hcn hrc p3 r3
      refine aw_goto (tgt := 0) dX6_euclid_44 (by decide) ?_
      refine aw_pk [0, 1, 2, 3, 4] (by rfl) ?_
      exact IH (by show (z3 (e + c)).natAbs ≤ x; have : ab (z3 (e + c)) < ab (z' (e + c)) := l3; unfold ab at this; omega) hmo3 hM3 (fun q hq => (f3 q hq).trans (hF q hq)) i3 (hU.tr (Uni.step p3 r3))
theorem m_euclid (g : GX) (d : Nat) {V : AH} {mo sz a e n c : Nat} {zs T : Nat → Int} (hm : moV mo V) (hM : MN g mo V zs) (hcn : c < n) (hd : a + n ≤ e ∨ e + n ≤ a) (h1 : a + n ≤ 415) (h2 : e + n ≤ 415) (hT : ∀ j, j < n → SmM (T j)) (hp : zs (a + c) ≠ 0) (hr : zs (e + c) ≠ 0) (hS : ∀ j, j < n → ab (zs (a + j)) * ab (zs (e + c)) + ab (zs (e + j)) * ab (zs (a + c)) ≤ T j) : AMet g mX6_euclid (d + 3) [.ref mo, .int (iZ a), .int (iZ e), .int (iZ n), .int (iZ c)] V sz (VX V sz (EN mo) (EuQ g mo zs T a e n c)) := by
  obtain ⟨rk, kn, ar, ac, hmo⟩ := hm
  refine AMet.of rfl rfl (Nat.le_of_ble_eq_true rfl) ?_
  show AW g mX6_euclid (d + 3) 0 [(0, .ref mo), (1, .int (iZ a)), (2, .int (iZ e)), (3, .int (iZ n)), (4, .int (iZ c))] [] V sz _
  refine eu_loop g d hcn hd h1 h2 hT _ (Nat.le_refl _) hmo hM (fun _ _ => rfl) ⟨hp, fun j hj => ⟨hS j hj, ?_, ?_⟩⟩ Uni.rf
  · have k1 := hS j hj
    have k2 : ab (zs (a + j)) * 1 ≤ ab (zs (a + j)) * ab (zs (e + c)) := Int.mul_le_mul_of_nonneg_left (by unfold ab; omega) (ab0 _)
    have k3 : 0 ≤ ab (zs (e + j)) * ab (zs (a + c)) := Int.mul_nonneg (ab0 _) (ab0 _)
    show ab (zs (a + j)) ≤ T j
    omega
  · have k1 := hS j hj
    have k2 : ab (zs (e + j)) * 1 ≤ ab (zs (e + j)) * ab (zs (a + c)) := Int.mul_le_mul_of_nonneg_left (by unfold ab; omega) (ab0 _)
    have k3 : 0 ≤ ab (zs (a + j)) * ab (zs (e + c)) := Int.mul_nonneg (ab0 _) (ab0 _)
    show ab (zs (e + j)) ≤ T j
    omega

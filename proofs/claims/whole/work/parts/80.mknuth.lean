/-! ===== the reference: the digit that is guessed from the top digits ===== -/
/-- v and W by their top limbs -/
def KDm (v1 v2 u2 u1 u0 v W : Int) : Prop := ∃ P lv lw : Int, 0 < P ∧ (0 ≤ lv ∧ lv < P) ∧ (0 ≤ lw ∧ lw < P) ∧ v = (v1 * 268435456 + v2) * P + lv ∧ W = ((u2 * 268435456 + u1) * 268435456 + u0) * P + lw ∧ (0 ≤ v2 ∧ v2 < 268435456) ∧ (268435456 ≤ 2 * v1 ∧ v1 < 268435456) ∧ (0 ≤ u2 ∧ u2 < 268435456) ∧ (0 ≤ u1 ∧ u1 < 268435456) ∧ (0 ≤ u0 ∧ u0 < 268435456) ∧ W < v * 268435456
theorem KDm.vpos {v1 v2 u2 u1 u0 v W : Int} (h : KDm v1 v2 u2 u1 u0 v W) : 0 < v := by
  obtain ⟨P, lv, lw, hP, h1, h2, e1, e2, h3, h4, h5, h6, h7, h8⟩ := h
  have : 1 * P ≤ (v1 * 268435456 + v2) * P := Int.mul_le_mul_of_nonneg_right (by omega) (by omega)
  omega
/-- the top limb isn't above the divisor's -/
theorem KDm.top {v1 v2 u2 u1 u0 v W : Int} (h : KDm v1 v2 u2 u1 u0 v W) : u2 ≤ v1 := by
  obtain ⟨P, lv, lw, hP, h1, h2, e1, e2, h3, h4, h5, h6, h7, h8⟩ := h
  rcases Int.lt_or_le v1 u2 with q | q
  · exfalso
    have a1 : (v1 * 268435456 + v2 + 1) * P ≤ (u2 * 268435456) * P := Int.mul_le_mul_of_nonneg_right (by omega) (by omega)
    have a2 : (u2 * 268435456 * 268435456) * P ≤ ((u2 * 268435456 + u1) * 268435456 + u0) * P := Int.mul_le_mul_of_nonneg_right (by omega) (by omega)
    have a3 : (u2 * 268435456 * 268435456) * P = (u2 * 268435456) * P * 268435456 := by
      rw [Int.mul_assoc, Int.mul_comm 268435456 P, ← Int.mul_assoc]
    rw [Int.add_mul _ 1, Int.one_mul] at a1
    generalize (u2 * 268435456) * P = X at a1 a3
    generalize (v1 * 268435456 + v2) * P = Y at a1 e1
    omega
  · exact q
theorem KDm.first {v1 v2 u2 u1 u0 v W d over : Int} (h : KDm v1 v2 u2 u1 u0 v W) (hd : u2 * 268435456 + u1 = d * v1 + over) (ho : 0 ≤ over ∧ over < v1) (hd0 : 0 ≤ d) : W < (d + 1) * v ∧ d ≤ 268435457 ∧ (d - 2) * v ≤ W := by
  have ht := h.top
  have hv := h.vpos
  obtain ⟨P, lv, lw, hP, h1, h2, e1, e2, h3, h4, h5, h6, h7, h8⟩ := h
  have hd1 : d ≤ 268435457 := by
    rcases Int.lt_or_le 268435457 d with q | q
    · exfalso
      have : 268435458 * v1 ≤ d * v1 := Int.mul_le_mul_of_nonneg_right (by omega) (by omega)
      omega
    · exact q
  have b1 : (d + 1) * v1 = d * v1 + v1 := by rw [Int.add_mul, Int.one_mul]
  refine ⟨?_, hd1, ?_⟩
  · have a1 : ((u2 * 268435456 + u1 + 1) * 268435456) * P ≤ ((d + 1) * v1 * 268435456) * P := Int.mul_le_mul_of_nonneg_right (by omega) (by omega)
    have a2 : ((u2 * 268435456 + u1) * 268435456 + u0 + 1) * P ≤ ((u2 * 268435456 + u1 + 1) * 268435456) * P := Int.mul_le_mul_of_nonneg_right (by omega) (by omega)
    have a3 : (d + 1) * ((v1 * 268435456) * P) ≤ (d + 1) * v := by
      refine Int.mul_le_mul_of_nonneg_left ?_ (by omega)
      have : (v1 * 268435456) * P ≤ (v1 * 268435456 + v2) * P := Int.mul_le_mul_of_nonneg_right (by omega) (by omega)
      omega
    have a4 : (d + 1) * ((v1 * 268435456) * P) = ((d + 1) * v1 * 268435456) * P := by simp only [Int.mul_assoc]
    rw [Int.add_mul _ 1, Int.one_mul] at a2
    omega
  · by_cases hd2 : d ≤ 2
    · have : (d - 2) * v ≤ 0 * v := Int.mul_le_mul_of_nonneg_right (by omega) (by omega)
      have hW : 0 ≤ W := by
        have : 0 ≤ ((u2 * 268435456 + u1) * 268435456 + u0) * P := Int.mul_nonneg (by omega) (by omega)
        omega
      omega
    · have a1 : v ≤ ((v1 + 1) * 268435456) * P := by
        have : (v1 * 268435456 + v2 + 1) * P ≤ ((v1 + 1) * 268435456) * P := Int.mul_le_mul_of_nonneg_right (by omega) (by omega)
        rw [Int.add_mul _ 1, Int.one_mul] at this
        omega
      have a2 : (d - 2) * v ≤ (d - 2) * (((v1 + 1) * 268435456) * P) := Int.mul_le_mul_of_nonneg_left a1 (by omega)
      have a3 : (d - 2) * (((v1 + 1) * 268435456) * P) = ((d - 2) * (v1 + 1) * 268435456) * P := by simp only [Int.mul_assoc]
      have a5 : (d - 2) * (v1 + 1) = d * v1 + d - 2 * v1 - 2 := by rw [Int.sub_mul, Int.mul_add, Int.mul_add]; omega
      have a4 : ((d - 2) * (v1 + 1) * 268435456) * P ≤ ((u2 * 268435456 + u1) * 268435456 + u0) * P := Int.mul_le_mul_of_nonneg_right (by rw [a5]; omega) (by omega)
      omega
theorem KDm.less {v1 v2 u2 u1 u0 v W d over : Int} (h : KDm v1 v2 u2 u1 u0 v W) (hd : u2 * 268435456 + u1 = d * v1 + over) (hd0 : 0 ≤ d) (ht : 268435456 ≤ d ∨ over * 268435456 + u0 < d * v2) : W < d * v := by
  have hv := h.vpos
  obtain ⟨P, lv, lw, hP, h1, h2, e1, e2, h3, h4, h5, h6, h7, h8⟩ := h
  rcases ht with ht | ht
  · have : 268435456 * v ≤ d * v := Int.mul_le_mul_of_nonneg_right ht (by omega)
    omega
  · have a1 : ((u2 * 268435456 + u1) * 268435456 + u0 + 1) * P ≤ (d * v1 * 268435456 + d * v2) * P := Int.mul_le_mul_of_nonneg_right (by omega) (by omega)
    have a2 : d * ((v1 * 268435456 + v2) * P) ≤ d * v := Int.mul_le_mul_of_nonneg_left (by omega) hd0
    have a3 : d * ((v1 * 268435456 + v2) * P) = (d * v1 * 268435456 + d * v2) * P := by rw [← Int.mul_assoc, Int.mul_add, ← Int.mul_assoc]
    rw [Int.add_mul _ 1, Int.one_mul] at a1
    omega
theorem KDm.fine {v1 v2 u2 u1 u0 v W d over : Int} (h : KDm v1 v2 u2 u1 u0 v W) (hd : u2 * 268435456 + u1 = d * v1 + over) (hd0 : 0 ≤ d) (hd1 : d ≤ 268435456) (ht : d * v2 ≤ over * 268435456 + u0) : (d - 1) * v ≤ W := by
  obtain ⟨P, lv, lw, hP, h1, h2, e1, e2, h3, h4, h5, h6, h7, h8⟩ := h
  have a1 : (d * v1 * 268435456 + d * v2) * P ≤ ((u2 * 268435456 + u1) * 268435456 + u0) * P := Int.mul_le_mul_of_nonneg_right (by omega) (by omega)
  have a3 : d * ((v1 * 268435456 + v2) * P) = (d * v1 * 268435456 + d * v2) * P := by rw [← Int.mul_assoc, Int.mul_add, ← Int.mul_assoc]
  have a4 : d * lv ≤ 268435456 * P := Int.mul_le_mul hd1 (by omega) h1.1 (by omega)
  have a5 : 268435456 * P ≤ (v1 * 268435456 + v2) * P := Int.mul_le_mul_of_nonneg_right (by omega) (by omega)
  have a6 : d * v = d * ((v1 * 268435456 + v2) * P) + d * lv := by rw [e1, Int.mul_add]
  rw [Int.sub_mul, Int.one_mul]
  omega
theorem KDm.over {v1 v2 u2 u1 u0 v W d over : Int} (h : KDm v1 v2 u2 u1 u0 v W) (hd : u2 * 268435456 + u1 = d * v1 + over) (hd0 : 0 ≤ d) (hd1 : d ≤ 268435456) (ho : 268435456 ≤ over) : (d - 1) * v ≤ W := by
  have hv2 : 0 ≤ v2 ∧ v2 < 268435456 := by
    obtain ⟨P, lv, lw, hP, h1, h2, e1, e2, h3, -⟩ := h
    exact h3
  have hu0 : 0 ≤ u0 := by
    obtain ⟨P, lv, lw, hP, h1, h2, e1, e2, h3, h4, h5, h6, h7, h8⟩ := h
    omega
  refine h.fine hd hd0 hd1 ?_
  have : d * v2 ≤ 268435456 * 268435455 := Int.mul_le_mul hd1 (by omega) hv2.1 (by omega)
  omega

/-! ===== two rows divided by each other: bounds and end ===== -/
def CL (T : Int) (w l x : Nat) (K N : Nat → Int) : Prop :=
  0 < K l ∧ (∀ j, j < l → K j = 0 ∧ N j = 0) ∧ (∀ j, j < w → ab (K j) ≤ T ∧ ab (N j) ≤ T) ∧
  (N l = 0 ∨ (0 < x ∧ x ≤ 9300 ∧ K l < N l ∧ K l * N l < 2 ^ x ∧ ∀ j, j < w → ab (K j) * N l + ab (N j) * K l ≤ T) ∨
   (x = 9301 ∧ Sm T ∧ ∃ b c : Int, 1 ≤ b ∧ 1 ≤ c ∧ (∀ j, j < w → ab (K j) ≤ b ∧ ab (N j) ≤ c) ∧ b * c + (c + 2 * b) * b ≤ T))
theorem sm_2 {T : Int} (h : Sm T) {a b : Int} (ha : 0 ≤ a) (hb : 0 ≤ b) (h1 : a ≤ ab T) (h2 : b ≤ ab T) : a * b < 2 ^ 9300 := by
  have e : (2 : Int) ^ 9300 = 2147483648 ^ 150 * 2147483648 ^ 150 := by
    rw [show (2147483648 : Int) = 2 ^ 31 by decide, ← Int.pow_mul, ← Int.pow_add]
  have h3 : ab T < 2147483648 ^ 150 := h
  rw [e]
  generalize (2147483648 : Int) ^ 150 = B at h3 ⊢
  have h4 : a * b ≤ ab T * ab T := Int.mul_le_mul h1 h2 hb (ab0 _)
  have h5 : ab T * ab T ≤ ab T * B := Int.mul_le_mul_of_nonneg_left (by omega) (ab0 _)
  have h6 : ab T * B < B * B := Int.mul_lt_mul_of_pos_right h3 (by have := ab0 T; omega)
  omega
theorem half_mul {k n r q x : Int} (hk : 0 < k) (hr : 0 < r) (hrk : r < k) (hq : n = k * q + r) (hkn : k < n) : 2 * (r * k) < k * n := by
  have h1 : 1 ≤ q := by
    rcases Int.lt_or_le q 1 with h | h
    · have : k * q ≤ k * 0 := Int.mul_le_mul_of_nonneg_left (by omega) (by omega)
      omega
    · exact h
  have h2 : k * 1 ≤ k * q := Int.mul_le_mul_of_nonneg_left h1 (by omega)
  have h3 : 2 * r < n := by omega
  have h4 : k * (2 * r) < k * n := Int.mul_lt_mul_of_pos_left h3 hk
  have h5 : k * (2 * r) = 2 * (r * k) := by rw [Int.mul_comm r k, ← Int.mul_assoc, ← Int.mul_assoc, Int.mul_comm k 2]
  omega
/-- one step of the division, seen in one column -/
theorem cl_col {k n r q a b T : Int} (hk : 0 < k) (hr : 0 ≤ r) (hn : 0 ≤ q) (hq : n = k * q + r) (hT : ab a * n + ab b * k ≤ T) : ab (b - q * a) * k + ab a * r ≤ T := by
  have h1 := ab_sub b (q * a)
  rw [ab_mul, ab_pos hn] at h1
  have h2 : ab (b - q * a) * k ≤ (ab b + q * ab a) * k := Int.mul_le_mul_of_nonneg_right h1 (by omega)
  have h3 : (ab b + q * ab a) * k = ab b * k + ab a * (k * q) := by
    rw [Int.add_mul, Int.mul_comm q (ab a), Int.mul_assoc, Int.mul_comm q k]
  have h4 : ab a * n = ab a * (k * q) + ab a * r := by rw [hq, Int.mul_add]
  omega
theorem le_of_mul1 {a k T : Int} (ha : 0 ≤ a) (hk : 0 < k) (h : a * k ≤ T) : a ≤ T := by
  have : a * 1 ≤ a * k := Int.mul_le_mul_of_nonneg_left (by omega) ha
  omega
theorem cl_first {k n r q a b B C T : Int} (hk : 0 < k) (hr : 0 ≤ r) (hrk : r < k) (hq : n = k * q + r) (hkB : k ≤ B) (hnC : ab n ≤ C) (ha : ab a ≤ B) (hb : ab b ≤ C) (hT : B * C + (C + 2 * B) * B ≤ T) : ab (b - q * a) * k + ab a * r ≤ T := by
  have h1 := ab_sub b (q * a)
  rw [ab_mul] at h1
  have hB0 : 0 ≤ B := by omega
  have hqk : ab q * k ≤ ab n + k := by
    have e : ab (k * q) = k * ab q := by rw [ab_mul, ab_pos (by omega)]
    have e2 : ab (k * q) ≤ ab n + r := by
      have : k * q = n - r := by omega
      rw [this]
      have := ab_sub n r
      rw [ab_pos hr] at this
      exact this
    rw [Int.mul_comm]; omega
  have h2 : ab (b - q * a) * k ≤ (ab b + ab q * ab a) * k := Int.mul_le_mul_of_nonneg_right h1 (by omega)
  have h3 : (ab b + ab q * ab a) * k = ab b * k + ab a * (ab q * k) := by
    rw [Int.add_mul, Int.mul_comm (ab q) (ab a), Int.mul_assoc]
  have h4 : ab a * (ab q * k) ≤ B * (ab q * k) := Int.mul_le_mul_of_nonneg_right ha (Int.mul_nonneg (ab0 _) (by omega))
  have h5 : B * (ab q * k) ≤ B * (C + B) := Int.mul_le_mul_of_nonneg_left (by omega) hB0
  have h6 : ab b * k ≤ C * B := Int.mul_le_mul hb hkB (by omega) (by have := ab0 b; omega)
  have h7 : ab a * r ≤ B * B := Int.mul_le_mul ha (by omega) hr hB0
  have h8 : B * C + (C + 2 * B) * B = C * B + (B * (C + B) + B * B) := by
    rw [Int.add_mul, Int.mul_add, Int.mul_comm B C, Int.mul_assoc]
    omega
  omega
/-- one step of the division of two rows -/
theorem CL.step {T : Int} {w l x : Nat} {K N : Nat → Int} (hlw : l < w) (h : CL T w l x K N) (hn : N l ≠ 0) : 0 < x ∧ (N l - N l / K l * K l = 0 → CL T w l (x - 1) K (fun j => N j - N l / K l * K j)) ∧ (¬ N l - N l / K l * K l = 0 → CL T w l (x - 1) (fun j => N j - N l / K l * K j) K) ∧ ab (N l / K l) ≤ T ∧ ∀ j, j < w → ab (N j - N l / K l * K j) ≤ T := by
  obtain ⟨hk, hz, hb, h4⟩ := h
  have hm := Int.mul_ediv_add_emod (N l) (K l)
  have hr0 := Int.emod_nonneg (N l) (show K l ≠ 0 by omega)
  have hr1 := Int.emod_lt_of_pos (N l) hk
  have hr : N l - N l / K l * K l = N l % K l := by rw [Int.mul_comm]; omega
  rw [hr]
  generalize hq : N l / K l = q at *
  generalize hrr : N l % K l = r at *
  have hqT : ab q ≤ T := by
    have h5 := (hb l hlw).2
    have h6 : ab q ≤ ab (N l) := by
      rw [← hq]
      unfold ab
      have := Int.natAbs_ediv_le_natAbs (N l) (K l)
      omega
    omega
  have hz' : ∀ j, j < l → N j - q * K j = 0 := fun j hj => by rw [(hz j hj).1, (hz j hj).2]; omega
  have hcol : (∀ j, j < w → ab (N j - q * K j) * K l + ab (K j) * r ≤ T) ∧ 0 < x ∧ (r ≠ 0 → r * K l < 2 ^ (x - 1)) ∧ x ≤ 9301 ∧ (r ≠ 0 → 0 < x - 1) := by
    rcases h4 with h4 | ⟨hx0, hx1, hlt, hpr, hT⟩ | ⟨rfl, hS, b, c, hb1, hc1, hbc, hT⟩
    · exact absurd h4 hn
    · have hq0 : 0 ≤ q := by rw [← hq]; exact Int.ediv_nonneg (by omega) (by omega)
      have hpw : (2 : Int) ^ x = 2 ^ (x - 1) * 2 := by rw [← Int.pow_succ]; congr 1; omega
      have hh : r ≠ 0 → r * K l < 2 ^ (x - 1) := fun hr2 => by
        have := half_mul (x := 0) hk (show 0 < r by omega) hr1 hm.symm hlt
        omega
      refine ⟨fun j hj => cl_col hk hr0 hq0 hm.symm (hT j hj), hx0, hh, by omega, fun hr2 => ?_⟩
      rcases Nat.eq_zero_or_pos (x - 1) with h7 | h7
      · have h8 := hh hr2
        rw [h7, Int.pow_zero] at h8
        have : 1 * 1 ≤ r * K l := Int.mul_le_mul (by omega) (by omega) (by omega) (by omega)
        omega
      · exact h7
    · refine ⟨fun j hj => cl_first hk hr0 hr1 hm.symm ?_ (hbc l hlw).2 (hbc j hj).1 (hbc j hj).2 hT, by omega, fun _ => ?_, by omega, fun _ => by omega⟩
      · have := (hbc l hlw).1
        rw [ab_pos (by omega)] at this
        exact this
      · have h5 := (hb l hlw).1
        rw [ab_pos (by omega)] at h5
        have hTp : ab T = T := ab_pos (by omega)
        exact sm_2 hS hr0 (by omega) (by omega) (by omega)
  obtain ⟨hcol, hx0, hh, hx9, hx1⟩ := hcol
  have hN' : ∀ j, j < w → ab (N j - q * K j) ≤ T := fun j hj => by
    have h5 := hcol j hj
    have h6 : 0 ≤ ab (K j) * r := Int.mul_nonneg (ab0 _) hr0
    exact le_of_mul1 (ab0 _) hk (by omega)
  refine ⟨hx0, fun hr2 => ⟨hk, fun j hj => ⟨(hz j hj).1, hz' j hj⟩, fun j hj => ⟨(hb j hj).1, hN' j hj⟩, Or.inl (by rw [← hr2, ← hr])⟩, fun hr2 => ⟨?_, fun j hj => ⟨hz' j hj, (hz j hj).1⟩, fun j hj => ⟨hN' j hj, (hb j hj).1⟩, Or.inr (Or.inl ⟨hx1 hr2, by omega, ?_, ?_, fun j hj => ?_⟩)⟩, hqT, hN'⟩
  · show 0 < N l - q * K l
    rw [hr]; omega
  · show N l - q * K l < K l
    rw [hr]; omega
  · show (N l - q * K l) * K l < 2 ^ (x - 1)
    rw [hr]; exact hh hr2
  · show ab (N j - q * K j) * K l + ab (K j) * (N l - q * K l) ≤ T
    rw [hr]; exact hcol j hj

/-! ===== the reference: long division, from place to place; the scaling ===== -/
theorem dm_win {U : Nat → Int} {p n : Nat} {v : Int} (hU : ∀ k, k < p → 0 ≤ U k ∧ U k < 268435456) (hlt : mg 268435456 U (p + 1 + n) < v * 268435456 ^ (p + 1)) : mg 268435456 (wn U p) n + U (p + n) * 268435456 ^ n < v * 268435456 := by
  have h1 := (mg_bd (show (0 : Int) < 268435456 by omega) (F := U) (n := p) hU).1
  have hp := pw_pos (show (0 : Int) < 268435456 by omega) p
  have h2 := mg_split (B := 268435456) (F := U) (p := p) (n + 1)
  rw [show p + (n + 1) = p + 1 + n by omega] at h2
  have h3 : mg 268435456 (wn U p) (n + 1) = mg 268435456 (wn U p) n + U (p + n) * 268435456 ^ n := rfl
  rw [h3] at h2
  generalize mg 268435456 (wn U p) n + U (p + n) * 268435456 ^ n = W at h2 ⊢
  rw [Int.pow_succ] at hlt
  generalize (268435456 : Int) ^ p = P at hp h2 hlt
  rcases Int.lt_or_le W (v * 268435456) with h | h
  · exact h
  · exfalso
    have e1 : v * 268435456 * P ≤ W * P := Int.mul_le_mul_of_nonneg_right h (by omega)
    have e2 : v * (P * 268435456) = v * 268435456 * P := by rw [Int.mul_comm P, ← Int.mul_assoc]
    omega
theorem dm_step {U U' : Nat → Int} {p n : Nat} {v T S qd : Int} (hU' : ∀ k, k < p → 0 ≤ U' k ∧ U' k < 268435456) (hI : T = v * S + mg 268435456 U (p + 1 + n)) (hW : mg 268435456 (wn U p) n + U (p + n) * 268435456 ^ n = qd * v + mg 268435456 (wn U' p) n) (hr : mg 268435456 (wn U' p) n < v) (hlow : ∀ i, i < p → U' i = U i) : T = v * (S + qd * 268435456 ^ p) + mg 268435456 U' (p + n) ∧ mg 268435456 U' (p + n) < v * 268435456 ^ p := by
  have h1 := (mg_bd (show (0 : Int) < 268435456 by omega) (F := U') (n := p) hU').2
  have hp := pw_pos (show (0 : Int) < 268435456 by omega) p
  have h2 := mg_split (B := 268435456) (F := U) (p := p) (n + 1)
  have h4 := mg_split (B := 268435456) (F := U') (p := p) n
  rw [show p + (n + 1) = p + 1 + n by omega] at h2
  have h3 : mg 268435456 (wn U p) (n + 1) = mg 268435456 (wn U p) n + U (p + n) * 268435456 ^ n := rfl
  rw [h3, hW] at h2
  have h5 : mg 268435456 U' p = mg 268435456 U p := mg_congr hlow
  rw [h4]
  generalize mg 268435456 (wn U' p) n = r at *
  generalize (268435456 : Int) ^ p = P at *
  refine ⟨?_, ?_⟩
  · have e1 : v * (S + qd * P) = v * S + qd * v * P := by rw [Int.mul_add, ← Int.mul_assoc, Int.mul_comm v qd]
    rw [Int.add_mul] at h2
    omega
  · have e1 : (r + 1) * P ≤ v * P := Int.mul_le_mul_of_nonneg_right (by omega) (by omega)
    rw [Int.add_mul, Int.one_mul] at e1
    omega
/-- the digits that the guess reads: two limbs of the divisor, three of the rest -/
theorem kdm_of {U Vd : Nat → Int} {p n : Nat} {v W : Int} (hn : 1 ≤ n) (hU : ∀ k, k ≤ p + n → 0 ≤ U k ∧ U k < 268435456) (hVd : ∀ k, k < n → 0 ≤ Vd k ∧ Vd k < 268435456) (hv : v = mg 268435456 Vd n) (hW : W = mg 268435456 (wn U p) n + U (p + n) * 268435456 ^ n) (htop : 268435456 ≤ 2 * Vd (n - 1)) (hWB : W < v * 268435456) : ∃ v' W' : Int, KDm (Vd (n - 1)) (if 1 < n then Vd (n - 2) else 0) (U (p + n)) (U (p + n - 1)) (if 1 < n then U (p + n - 2) else 0) v' W' ∧ (∀ q, W' < (q + 1) * v' → W < (q + 1) * v) ∧ ∀ q, (q - 1) * v' ≤ W' → (q - 1) * v ≤ W := by
  by_cases h1 : 1 < n
  · obtain ⟨m, rfl⟩ : ∃ m, n = m + 2 := ⟨n - 2, by omega⟩
    refine ⟨v, W, ?_, fun _ h => h, fun _ h => h⟩
    have b1 := mg_bd (show (0 : Int) < 268435456 by omega) (F := Vd) (n := m) (fun k hk => hVd k (by omega))
    have b2 := mg_bd (show (0 : Int) < 268435456 by omega) (F := wn U p) (n := m) (fun k hk => hU (p + k) (by omega))
    rw [if_pos h1, if_pos h1]
    refine ⟨268435456 ^ m, mg 268435456 Vd m, mg 268435456 (wn U p) m, pw_pos (by omega) m, b1, b2, ?_, ?_, hVd _ (by omega), ⟨htop, (hVd _ (by omega)).2⟩, hU _ (by omega), hU _ (by omega), hU _ (by omega), hWB⟩
    · rw [hv]
      simp only [mg]
      rw [show m + 2 - 1 = m + 1 by omega, show m + 2 - 2 = m by omega, Int.pow_succ, Int.add_mul, Int.mul_comm (268435456 ^ m) 268435456, ← Int.mul_assoc]
      omega
    · rw [hW]
      simp only [mg]
      unfold wn
      rw [show p + (m + 2) - 1 = p + (m + 1) by omega, show p + (m + 2) - 2 = p + m by omega, show (268435456 : Int) ^ (m + 2) = 268435456 ^ m * 268435456 * 268435456 by rw [Int.pow_succ, Int.pow_succ], show (268435456 : Int) ^ (m + 1) = 268435456 ^ m * 268435456 from Int.pow_succ _ _]
      generalize (268435456 : Int) ^ m = P
      have e1 : U (p + (m + 1)) * (P * 268435456) = U (p + (m + 1)) * 268435456 * P := by rw [Int.mul_comm P, ← Int.mul_assoc]
      have e2 : U (p + (m + 2)) * (P * 268435456 * 268435456) = U (p + (m + 2)) * 268435456 * 268435456 * P := by
        rw [Int.mul_assoc P, Int.mul_comm P, ← Int.mul_assoc, ← Int.mul_assoc]
      rw [e1, e2, Int.add_mul, Int.add_mul, Int.add_mul]
      omega
  · obtain rfl : n = 1 := by omega
    refine ⟨v * 268435456, W * 268435456, ?_, fun q h => ?_, fun q h => ?_⟩
    · rw [if_neg h1, if_neg h1]
      refine ⟨1, 0, 0, by omega, by omega, by omega, ?_, ?_, by omega, ⟨htop, (hVd _ (by omega)).2⟩, hU _ (by omega), hU _ (by omega), by omega, by omega⟩
      · rw [hv]; simp [mg]
      · rw [hW]
        simp [mg, wn]
        omega
    · rw [← Int.mul_assoc] at h; omega
    · rw [← Int.mul_assoc] at h; omega
/-- the factor brings the top digit to half of the base -/
theorem sc_half {f t r : Int} (hf : 1 ≤ f) (ht : 1 ≤ t) (he : 268435456 = f * (t + 1) + r) (hr : 0 ≤ r ∧ r ≤ t) : 268435456 ≤ 2 * (f * t) := by
  rw [Int.mul_add, Int.mul_one] at he
  by_cases h1 : f = 1
  · subst h1
    omega
  · by_cases h2 : t = 1
    · subst h2
      omega
    · have : 2 * (t - 1) ≤ f * (t - 1) := Int.mul_le_mul_of_nonneg_right (by omega) (by omega)
      rw [show f * (t - 1) = f * t - f by rw [Int.mul_sub, Int.mul_one]] at this
      omega
theorem sc_top {F X : Nat → Int} {n : Nat} {f w : Int} (hn : 1 ≤ n) (hF : ∀ k, k < n → 0 ≤ F k ∧ F k < 268435456) (hX : ∀ k, k < n → 0 ≤ X k ∧ X k < 268435456) (hf : f = 268435456 / (F (n - 1) + 1)) (ht : F (n - 1) ≠ 0) (hw : 0 ≤ w) (hE : mg 268435456 X n + w * 268435456 ^ n = f * mg 268435456 F n) : w = 0 ∧ 268435456 ≤ 2 * X (n - 1) ∧ 1 ≤ f ∧ f < 268435456 := by
  obtain ⟨m, rfl⟩ : ∃ m, n = m + 1 := ⟨n - 1, by omega⟩
  rw [show m + 1 - 1 = m by omega] at *
  have hFm := hF m (by omega)
  have hXm := hX m (by omega)
  have hlo := mg_bd (show (0 : Int) < 268435456 by omega) (F := F) (n := m) (fun k hk => hF k (by omega))
  have hlx := mg_bd (show (0 : Int) < 268435456 by omega) (F := X) (n := m) (fun k hk => hX k (by omega))
  simp only [mg] at hE
  rw [Int.pow_succ] at hE
  have hP := pw_pos (show (0 : Int) < 268435456 by omega) m
  generalize F m = t at *
  generalize X m = x at *
  generalize mg 268435456 F m = y at *
  generalize mg 268435456 X m = z at *
  generalize (268435456 : Int) ^ m = P at *
  have hd := Int.emod_add_mul_ediv 268435456 (t + 1)
  have hr0 := Int.emod_nonneg 268435456 (show t + 1 ≠ 0 by omega)
  have hr1 := Int.emod_lt_of_pos 268435456 (show 0 < t + 1 by omega)
  rw [← hf] at hd
  clear hf
  have hf1 : 1 ≤ f := by
    rcases Int.lt_or_le f 1 with h | h
    · have : (t + 1) * f ≤ (t + 1) * 0 := Int.mul_le_mul_of_nonneg_left (by omega) (by omega)
      omega
    · exact h
  have hf2 : f * 2 ≤ f * (t + 1) := Int.mul_le_mul_of_nonneg_left (by omega) (by omega)
  rw [Int.mul_comm (t + 1) f] at hd
  have hh := sc_half (t := t) (r := 268435456 % (t + 1)) hf1 (by omega) (by omega) ⟨hr0, by omega⟩
  have e1 : f * (y + t * P) < 268435456 * P := by
    have a1 : f * (y + t * P) < f * ((t + 1) * P) := Int.mul_lt_mul_of_pos_left (by rw [Int.add_mul]; omega) (by omega)
    have a2 : f * (t + 1) * P ≤ 268435456 * P := Int.mul_le_mul_of_nonneg_right (by omega) (by omega)
    rw [← Int.mul_assoc] at a1
    omega
  have e2 : f * t * P ≤ f * (y + t * P) := by
    rw [Int.mul_assoc]
    exact Int.mul_le_mul_of_nonneg_left (by omega) (by omega)
  have hxP : 0 ≤ x * P := Int.mul_nonneg hXm.1 (by omega)
  have hw0 : w = 0 := by
    rcases Int.lt_or_le 0 w with h | h
    · have : 1 * (P * 268435456) ≤ w * (P * 268435456) := Int.mul_le_mul_of_nonneg_right (by omega) (by omega)
      omega
    · omega
  refine ⟨hw0, ?_, hf1, by omega⟩
  rw [hw0, Int.zero_mul] at hE
  have : f * t < x + 1 := by
    rcases Int.lt_or_le (f * t) (x + 1) with h | h
    · exact h
    · have a1 : (x + 1) * P ≤ f * t * P := Int.mul_le_mul_of_nonneg_right h (by omega)
      rw [Int.add_mul] at a1
      omega
  omega
/-- the rest scaled back -/
theorem bk_step {U X : Nat → Int} {k n : Nat} {f w v x w2 R : Int} (hk : k < n) (hI : R = f * (mg 268435456 X n - mg 268435456 X (k + 1)) + w * 268435456 ^ (k + 1) + mg 268435456 U (k + 1)) (hv : v = w * 268435456 + U k) (hx : v = f * x + w2) : R = f * (mg 268435456 (upF X k x) n - mg 268435456 (upF X k x) k) + w2 * 268435456 ^ k + mg 268435456 U k := by
  rw [mg_upd hk, mg_upF, hI]
  simp only [mg]
  rw [Int.pow_succ, Int.sub_mul]
  generalize (268435456 : Int) ^ k = P at *
  have e1 : w * (P * 268435456) = w * 268435456 * P := by rw [Int.mul_comm P, ← Int.mul_assoc]
  have e2 : v * P = f * (x * P) + w2 * P := by rw [hx, Int.add_mul, Int.mul_assoc]
  have e3 : v * P = w * 268435456 * P + U k * P := by rw [hv, Int.add_mul]
  have e4 : f * (mg 268435456 X n + (x * P - X k * P) - mg 268435456 X k) = f * (mg 268435456 X n - (mg 268435456 X k + X k * P)) + f * (x * P) := by
    rw [← Int.mul_add]
    congr 1
    omega
  rw [e1, e4]
  omega
theorem bk_end {f r m w : Int} (hf : 1 ≤ f) (h : f * r = f * m + w) (hw : 0 ≤ w ∧ w < f) : m = r := by
  have h1 : f * (r - m) = w := by rw [Int.mul_sub]; omega
  rcases Int.lt_trichotomy (r - m) 0 with h2 | h2 | h2
  · have : f * (r - m) ≤ f * (-1) := Int.mul_le_mul_of_nonneg_left (by omega) (by omega)
    omega
  · omega
  · have : f * 1 ≤ f * (r - m) := Int.mul_le_mul_of_nonneg_left (by omega) (by omega)
    omega
theorem dm_end {a b q x f : Int} (hf : 1 ≤ f) (hb : 0 < b) (ha : f * a = f * b * q + x) (hx : 0 ≤ x ∧ x < f * b) : q = a / b ∧ x = f * (a % b) := by
  have e1 : f * (a - b * q) = x := by
    rw [Int.mul_sub, ha, Int.mul_assoc]; omega
  have h1 : 0 ≤ a - b * q := by
    rcases Int.lt_or_le (a - b * q) 0 with h | h
    · have : f * (a - b * q) ≤ f * (-1) := Int.mul_le_mul_of_nonneg_left (by omega) (by omega)
      omega
    · exact h
  have h2 : a - b * q < b := by
    rcases Int.lt_or_le (a - b * q) b with h | h
    · exact h
    · have : f * b ≤ f * (a - b * q) := Int.mul_le_mul_of_nonneg_left h (by omega)
      omega
  have h3 : a / b = q := by
    rw [show a = (a - b * q) + b * q by omega, Int.add_mul_ediv_left _ _ (by omega), Int.ediv_eq_zero_of_lt h1 h2]
    omega
  have h4 : a % b = a - b * q := by
    have := Int.emod_add_mul_ediv a b
    rw [h3] at this
    omega
  exact ⟨h3.symm, by rw [h4, e1]⟩

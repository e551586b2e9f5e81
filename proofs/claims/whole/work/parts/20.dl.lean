/-! ===== long division: what holds from place to place ===== -/
theorem mg_split {B : Int} {F : Nat → Int} {p : Nat} : ∀ m : Nat, mg B F (p + m) = mg B F p + mg B (wn F p) m * B ^ p
  | 0 => by simp [mg]
  | m + 1 => by
    rw [← Nat.add_assoc]
    simp only [mg]
    rw [mg_split m, Int.add_mul]
    have e : wn F p m * B ^ m * B ^ p = F (p + m) * B ^ (p + m) := by
      unfold wn
      rw [Int.mul_assoc, ← Int.pow_add, Nat.add_comm m p]
    rw [e]
    omega
theorem dl_win {U : Nat → Int} {p n : Nat} {v : Int} (hU : ∀ k, k < p → 0 ≤ U k ∧ U k < 2147483648) (hlt : mg 2147483648 U (p + 1 + n) < v * 2147483648 ^ (p + 1)) : mg 2147483648 (wn U p) n + U (p + n) * 2147483648 ^ n < v * 2147483648 := by
  have h1 := (mg_bd (show (0 : Int) < 2147483648 by omega) (F := U) (n := p) hU).1
  have hp := pw_pos (show (0 : Int) < 2147483648 by omega) p
  have h2 := mg_split (B := 2147483648) (F := U) (p := p) (n + 1)
  rw [show p + (n + 1) = p + 1 + n by omega] at h2
  have h3 : mg 2147483648 (wn U p) (n + 1) = mg 2147483648 (wn U p) n + U (p + n) * 2147483648 ^ n := rfl
  rw [h3] at h2
  generalize mg 2147483648 (wn U p) n + U (p + n) * 2147483648 ^ n = W at h2 ⊢
  rw [Int.pow_succ] at hlt
  generalize (2147483648 : Int) ^ p = P at hp h2 hlt
  rcases Int.lt_or_le W (v * 2147483648) with h | h
  · exact h
  · exfalso
    have e1 : v * 2147483648 * P ≤ W * P := Int.mul_le_mul_of_nonneg_right h (by omega)
    have e2 : v * (P * 2147483648) = v * 2147483648 * P := by rw [Int.mul_comm P, ← Int.mul_assoc]
    omega
theorem dl_step {U U' : Nat → Int} {p n : Nat} {v T S qd : Int} (hU' : ∀ k, k < p → 0 ≤ U' k ∧ U' k < 2147483648) (hI : T = v * S + mg 2147483648 U (p + 1 + n)) (hW : mg 2147483648 (wn U p) n + U (p + n) * 2147483648 ^ n = qd * v + mg 2147483648 (wn U' p) n) (hr : mg 2147483648 (wn U' p) n < v) (hlow : ∀ i, i < p → U' i = U i) : T = v * (S + qd * 2147483648 ^ p) + mg 2147483648 U' (p + n) ∧ mg 2147483648 U' (p + n) < v * 2147483648 ^ p := by
  have h1 := (mg_bd (show (0 : Int) < 2147483648 by omega) (F := U') (n := p) hU').2
  have hp := pw_pos (show (0 : Int) < 2147483648 by omega) p
  have h2 := mg_split (B := 2147483648) (F := U) (p := p) (n + 1)
  have h4 := mg_split (B := 2147483648) (F := U') (p := p) n
  rw [show p + (n + 1) = p + 1 + n by omega] at h2
  have h3 : mg 2147483648 (wn U p) (n + 1) = mg 2147483648 (wn U p) n + U (p + n) * 2147483648 ^ n := rfl
  rw [h3, hW] at h2
  have h5 : mg 2147483648 U' p = mg 2147483648 U p := mg_congr hlow
  rw [h4]
  generalize mg 2147483648 (wn U' p) n = r at *
  generalize (2147483648 : Int) ^ p = P at *
  refine ⟨?_, ?_⟩
  · have e1 : v * (S + qd * P) = v * S + qd * v * P := by rw [Int.mul_add, ← Int.mul_assoc, Int.mul_comm v qd]
    rw [Int.add_mul] at h2
    omega
  · have e1 : (r + 1) * P ≤ v * P := Int.mul_le_mul_of_nonneg_right (by omega) (by omega)
    rw [Int.add_mul, Int.one_mul] at e1
    omega
/-- the digits that the guess reads: two limbs of the divisor, three of the rest -/
theorem kd_of {U Vd : Nat → Int} {p n : Nat} {v W : Int} (hn : 1 ≤ n) (hU : ∀ k, k ≤ p + n → 0 ≤ U k ∧ U k < 2147483648) (hVd : ∀ k, k < n → 0 ≤ Vd k ∧ Vd k < 2147483648) (hv : v = mg 2147483648 Vd n) (hW : W = mg 2147483648 (wn U p) n + U (p + n) * 2147483648 ^ n) (htop : 2147483648 ≤ 2 * Vd (n - 1)) (hWB : W < v * 2147483648) : ∃ v' W' : Int, KD (Vd (n - 1)) (if 1 < n then Vd (n - 2) else 0) (U (p + n)) (U (p + n - 1)) (if 1 < n then U (p + n - 2) else 0) v' W' ∧ (∀ q, W' < (q + 1) * v' → W < (q + 1) * v) ∧ ∀ q, (q - 1) * v' ≤ W' → (q - 1) * v ≤ W := by
  by_cases h1 : 1 < n
  · obtain ⟨m, rfl⟩ : ∃ m, n = m + 2 := ⟨n - 2, by omega⟩
    refine ⟨v, W, ?_, fun _ h => h, fun _ h => h⟩
    have b1 := mg_bd (show (0 : Int) < 2147483648 by omega) (F := Vd) (n := m) (fun k hk => hVd k (by omega))
    have b2 := mg_bd (show (0 : Int) < 2147483648 by omega) (F := wn U p) (n := m) (fun k hk => hU (p + k) (by omega))
    rw [if_pos h1, if_pos h1]
    refine ⟨2147483648 ^ m, mg 2147483648 Vd m, mg 2147483648 (wn U p) m, pw_pos (by omega) m, b1, b2, ?_, ?_, hVd _ (by omega), ⟨htop, (hVd _ (by omega)).2⟩, hU _ (by omega), hU _ (by omega), hU _ (by omega), hWB⟩
    · rw [hv]
      simp only [mg]
      rw [show m + 2 - 1 = m + 1 by omega, show m + 2 - 2 = m by omega, Int.pow_succ, Int.add_mul, Int.mul_comm (2147483648 ^ m) 2147483648, ← Int.mul_assoc]
      omega
    · rw [hW]
      simp only [mg]
      unfold wn
      rw [show p + (m + 2) - 1 = p + (m + 1) by omega, show p + (m + 2) - 2 = p + m by omega, show (2147483648 : Int) ^ (m + 2) = 2147483648 ^ m * 2147483648 * 2147483648 by rw [Int.pow_succ, Int.pow_succ], show (2147483648 : Int) ^ (m + 1) = 2147483648 ^ m * 2147483648 from Int.pow_succ _ _]
      generalize (2147483648 : Int) ^ m = P
      have e1 : U (p + (m + 1)) * (P * 2147483648) = U (p + (m + 1)) * 2147483648 * P := by rw [Int.mul_comm P, ← Int.mul_assoc]
      have e2 : U (p + (m + 2)) * (P * 2147483648 * 2147483648) = U (p + (m + 2)) * 2147483648 * 2147483648 * P := by
        rw [Int.mul_assoc P, Int.mul_comm P, ← Int.mul_assoc, ← Int.mul_assoc]
      rw [e1, e2, Int.add_mul, Int.add_mul, Int.add_mul]
      omega
  · obtain rfl : n = 1 := by omega
    refine ⟨v * 2147483648, W * 2147483648, ?_, fun q h => ?_, fun q h => ?_⟩
    · rw [if_neg h1, if_neg h1]
      refine ⟨1, 0, 0, by omega, by omega, by omega, ?_, ?_, by omega, ⟨htop, (hVd _ (by omega)).2⟩, hU _ (by omega), hU _ (by omega), by omega, by omega⟩
      · rw [hv]; simp [mg]
      · rw [hW]
        simp [mg, wn]
        omega
    · rw [← Int.mul_assoc] at h; omega
    · rw [← Int.mul_assoc] at h; omega
/-- the end: quotient and rest of the numbers themselves -/
theorem dl_end {a b q r x : Int} {sh : Nat} (hb : 0 < b) (ha : a * 2 ^ sh = b * 2 ^ sh * q + x) (hx : 0 ≤ x ∧ x < b * 2 ^ sh) (hq : 0 ≤ q) : q = a / b ∧ (x = 0 ↔ a % b = 0) := by
  have hp : (0 : Int) < 2 ^ sh := by exact_mod_cast Nat.two_pow_pos sh
  have e1 : (a - b * q) * 2 ^ sh = x := by
    rw [Int.sub_mul, ha, Int.mul_assoc b q, Int.mul_comm q, ← Int.mul_assoc]; omega
  have h1 : 0 ≤ a - b * q := by
    rcases Int.lt_or_le (a - b * q) 0 with h | h
    · have : (a - b * q) * 2 ^ sh ≤ (-1) * 2 ^ sh := Int.mul_le_mul_of_nonneg_right (by omega) (by omega)
      omega
    · exact h
  have h2 : a - b * q < b := by
    rcases Int.lt_or_le (a - b * q) b with h | h
    · exact h
    · have : b * 2 ^ sh ≤ (a - b * q) * 2 ^ sh := Int.mul_le_mul_of_nonneg_right h (by omega)
      omega
  have h3 : a / b = q := by
    rw [show a = (a - b * q) + b * q by omega, Int.add_mul_ediv_left _ _ (by omega), Int.ediv_eq_zero_of_lt h1 h2]
    omega
  have h4 : a % b = a - b * q := by
    have := Int.emod_add_mul_ediv a b
    rw [h3] at this
    omega
  refine ⟨h3.symm, ?_⟩
  rw [h4, ← e1]
  constructor
  · intro h
    rcases Int.mul_eq_zero.mp h with h | h
    · exact h
    · omega
  · intro h; rw [h, Int.zero_mul]

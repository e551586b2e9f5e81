/-! ===== Desk.divide ===== -/
theorem ediv_m {a m : Int} (hm : 0 < m) (ha : a < 0) : a / m = -((-a) / m + if (-a) % m = 0 then 0 else 1) := by
  have h1 := Int.emod_add_mul_ediv (-a) m
  have h2 := Int.emod_nonneg (-a) (show m ≠ 0 by omega)
  have h3 := Int.emod_lt_of_pos (-a) hm
  generalize (-a) / m = q at *
  generalize (-a) % m = r at *
  by_cases hr : r = 0
  · rw [if_pos hr]
    refine ((Int.ediv_emod_unique hm (q := -(q + 0)) (r := 0)).mpr ⟨?_, by omega, hm⟩).1
    rw [Int.mul_neg, Int.add_zero]; omega
  · rw [if_neg hr]
    refine ((Int.ediv_emod_unique hm (q := -(q + 1)) (r := m - r)).mpr ⟨?_, by omega, by omega⟩).1
    rw [Int.mul_neg, Int.mul_add, Int.mul_one]; omega
theorem ediv_sg {a b : Int} (ha : a ≠ 0) (hb : b ≠ 0) : a / b = a.sign * b.sign * ((a.natAbs : Int) / (b.natAbs : Int) + if a < 0 ∧ ¬ (a.natAbs : Int) % (b.natAbs : Int) = 0 then 1 else 0) := by
  have key : ∀ m : Int, 0 < m → a / m = a.sign * ((a.natAbs : Int) / m + if a < 0 ∧ ¬ (a.natAbs : Int) % m = 0 then 1 else 0) := fun m hm => by
    rcases sg_cases a with ⟨h1, h2, h3⟩ | ⟨h1, -⟩ | ⟨h1, h2, h3⟩
    · rw [ediv_m hm h1, h2, h3]
      by_cases hr : (-a) % m = 0
      · rw [if_pos hr, if_neg (fun h => h.2 hr)]; omega
      · rw [if_neg hr, if_pos ⟨h1, hr⟩]; omega
    · exact absurd h1 ha
    · rw [h2, h3, if_neg (fun h => by omega)]; omega
  rcases sg_cases b with ⟨h1, h2, h3⟩ | ⟨h1, -⟩ | ⟨h1, h2, h3⟩
  · have := key (-b) (by omega)
    rw [Int.ediv_neg] at this
    rw [h2, h3]
    generalize (a.natAbs : Int) / (-b) + (if a < 0 ∧ ¬ (a.natAbs : Int) % (-b) = 0 then 1 else 0) = x at *
    have e : a.sign * -1 * x = -(a.sign * x) := by rw [Int.mul_neg, Int.mul_one, Int.neg_mul]
    rw [e]; omega
  · exact absurd h1 hb
  · rw [h2, h3, Int.mul_one]; exact key b h1
/-- what the short way puts, and the long one -/
theorem ediv_lt {a b : Int} (ha : a ≠ 0) (hb : b ≠ 0) (h : (a.natAbs : Int) < (b.natAbs : Int)) : (a < 0 → a / b = a.sign * b.sign) ∧ (¬ a < 0 → a / b = 0) := by
  have e := ediv_sg ha hb
  rw [Int.ediv_eq_zero_of_lt (Int.natCast_nonneg _) h, Int.emod_eq_of_lt (Int.natCast_nonneg _) h] at e
  refine ⟨fun h1 => ?_, fun h1 => ?_⟩
  · rw [e, if_pos ⟨h1, by omega⟩, Int.zero_add, Int.mul_one]
  · rw [e, if_neg (fun h2 => h1 h2.1), Int.zero_add, Int.mul_zero]
theorem short_lt {F : Nat → Int} {n L : Nat} {x : Int} (hn : n ≤ L) (hF : ∀ k, k < L → 0 ≤ F k ∧ F k < 2147483648) (h2 : n ≤ 2) (hm : mg 2147483648 F n = x) : x < 4611686018427387904 := by
  have h1 := (mg_bd (show (0 : Int) < 2147483648 by omega) (F := F) (n := n) (fun k hk => hF k (by omega))).2
  have h3 := pw_le (show (1 : Int) ≤ 2147483648 by omega) h2
  rw [show (2147483648 : Int) ^ 2 = 4611686018427387904 by decide] at h3
  omega

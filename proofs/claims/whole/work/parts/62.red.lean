/-! ===== a row taken off: what is left tells whether it is in the lattice ===== -/
theorem red_zero {A : Mat} {h w : Nat} {l : Nat → Nat} {v : Nat → Int} (s : Stair A h w l) (hv : Span A h w v) (hr : ∀ k, k < h → 0 ≤ v (l k) ∧ v (l k) < A k (l k)) : ∀ j, j < w → v j = 0 := by
  have h0 : ∀ m, m ≤ h → ∀ k, k < m → v (l k) = 0 := fun m => by
    induction m with
    | zero => intro _ k hk; exact absurd hk (by omega)
    | succ m ih =>
      intro hm k hk
      have ih := ih (by omega)
      by_cases e : k = m
      · subst e
        obtain ⟨q, hq⟩ := ech_mul s.1 hv (m := k) (by omega) ih
        have h1 := hr k (by omega)
        have h2 : q = 0 := by
          rcases Int.lt_trichotomy q 0 with h7 | h7 | h7
          · have := Int.mul_le_mul_of_nonneg_right (show q ≤ -1 by omega) (show 0 ≤ A k (l k) by omega)
            omega
          · exact h7
          · have := Int.mul_le_mul_of_nonneg_right (show 1 ≤ q by omega) (show 0 ≤ A k (l k) by omega)
            omega
        rw [hq, h2, Int.zero_mul]
      · exact ih k (by omega)
  exact ech_zero s.1 hv (fun k hk => h0 h (Nat.le_refl _) k hk)
/-- two rows that differ by a row of the lattice and are both reduced are the same -/
theorem red_uniq {A : Mat} {h w : Nat} {l : Nat → Nat} {u v : Nat → Int} (s : Stair A h w l) (hv : Span A h w (fun j => u j - v j)) (hu : ∀ k, k < h → 0 ≤ u (l k) ∧ u (l k) < A k (l k)) (hr : ∀ k, k < h → 0 ≤ v (l k) ∧ v (l k) < A k (l k)) : ∀ j, j < w → u j = v j := by
  have h0 : ∀ m, m ≤ h → ∀ k, k < m → u (l k) - v (l k) = 0 := fun m => by
    induction m with
    | zero => intro _ k hk; exact absurd hk (by omega)
    | succ m ih =>
      intro hm k hk
      have ih := ih (by omega)
      by_cases e : k = m
      · subst e
        obtain ⟨q, hq⟩ := ech_mul s.1 hv (m := k) (by omega) ih
        have hq : u (l k) - v (l k) = q * A k (l k) := hq
        have h1 := hr k (by omega)
        have h3 := hu k (by omega)
        have h2 : q = 0 := by
          rcases Int.lt_trichotomy q 0 with h7 | h7 | h7
          · have := Int.mul_le_mul_of_nonneg_right (show q ≤ -1 by omega) (show 0 ≤ A k (l k) by omega)
            omega
          · exact h7
          · have := Int.mul_le_mul_of_nonneg_right (show 1 ≤ q by omega) (show 0 ≤ A k (l k) by omega)
            omega
        rw [hq, h2, Int.zero_mul]
      · exact ih k (by omega)
  intro j hj
  have := ech_zero s.1 hv (fun k hk => h0 h (Nat.le_refl _) k hk) j hj
  have this : u j - v j = 0 := this
  omega
theorem off_in {A : Mat} {h w : Nat} {l : Nat → Nat} {v v' q : Nat → Int} (s : Stair A h w l) (he : ∀ j, j < w → v' j = v j - Sg (fun t => q t * A t j) h) (hr : ∀ k, k < h → 0 ≤ v' (l k) ∧ v' (l k) < A k (l k)) : Span A h w v ↔ ∀ j, j < w → v' j = 0 := by
  have hq : Span A h w (fun j => Sg (fun t => q t * A t j) h) := ⟨q, fun _ _ => rfl⟩
  constructor
  · intro hv
    refine red_zero s ((hv.sub (q := 1) hq).congr (fun j hj => ?_)) hr
    rw [he j hj, Int.one_mul]
  · intro h0
    refine hq.congr (fun j hj => ?_)
    have h1 := he j hj
    rw [h0 j hj] at h1
    omega
theorem sm_offt : ∀ w : Fin 11, ∀ n : Fin 11, ((2 * (1000 * (1 + KB w 1000) ^ (n : Nat))).natAbs : Int) < 2147483648 ^ 150 := by decide +kernel
theorem sm_off {w n : Nat} (hw : w < 11) (hn : n < 11) : Sm (2 * (1000 * (1 + KB w 1000) ^ n)) := sm_offt ⟨w, hw⟩ ⟨n, hn⟩

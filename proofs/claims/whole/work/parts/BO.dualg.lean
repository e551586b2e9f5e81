/-! ===== what the WORTH and all cofactors share is what the cofactors share; quotients of sizes ===== -/
theorem det_of_cof {n : Nat} {A : Mat} {d : Int} (hn : 1 ≤ n) (h : ∀ i j, i < n → j < n → d ∣ cof n A i j) : d ∣ det n A := by
  have h1 := adj1 (n := n) A (i := 0) (j := 0) (by omega) (by omega)
  rw [if_pos rfl] at h1
  rw [← h1]
  exact Sg_dvd (fun k hk => dvd_mr (h 0 k (by omega) hk))
theorem dual_g {n : Nat} {A : Mat} {gg : Int} (hn : 1 ≤ n) (h : ∀ d : Int, d ∣ gg ↔ (d ∣ det n A ∧ ∀ i j, i < n → j < n → d ∣ cof n A i j)) : ∀ d : Int, d ∣ gg ↔ ∀ i j, i < n → j < n → d ∣ cof n A i j := fun d => (h d).trans ⟨fun z => z.2, fun z => ⟨det_of_cof hn z, z⟩⟩
/-- sizes are quotients: their products are the greatest common divisors of the minors -/
theorem gc_chain {A : Mat} {r c n : Nat} {G : Nat → Int} (h : ∀ k, k ≤ n → GcP k A r c (G k) ∧ G k ≠ 0) : ∀ k, k < n → G k ∣ G (k + 1) ∧ 0 < G (k + 1) / G k := fun k hk => by
  have h1 := (h k (by omega)).1
  have h2 := (h (k + 1) (by omega)).1
  have p1 : 0 < G k := by have := h1.1; have := (h k (by omega)).2; omega
  have p2 : 0 < G (k + 1) := by have := h2.1; have := (h (k + 1) (by omega)).2; omega
  have hd : G k ∣ G (k + 1) := (h2.2 (G k)).mpr (dvt_up ((h1.2 (G k)).mp ⟨1, by rw [Int.mul_one]⟩))
  refine ⟨hd, ?_⟩
  obtain ⟨x, hx⟩ := hd
  rw [hx, Int.mul_ediv_cancel_left x (by omega)]
  rcases Int.lt_or_le 0 x with q | q
  · exact q
  · have := Int.mul_le_mul_of_nonneg_left q (show 0 ≤ G k by omega)
    omega
theorem gc_prod {A : Mat} {r c n : Nat} {G : Nat → Int} (h : ∀ k, k ≤ n → GcP k A r c (G k) ∧ G k ≠ 0) : ∀ k, k ≤ n → Pd (fun j => G (j + 1) / G j) k = G k
  | 0, hk => GcP.uniq (gcp_0 (A := A) (r := r) (c := c)) (h 0 hk).1
  | k + 1, hk => by
    show Pd (fun j => G (j + 1) / G j) k * (G (k + 1) / G k) = G (k + 1)
    rw [gc_prod h k (by omega)]
    exact Int.mul_ediv_cancel' (gc_chain h k (by omega)).1

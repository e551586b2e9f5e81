/-! ===== sets of columns as bits; determinants along the last row; mathematics alone ===== -/
def rkb (s : Nat) : Nat → Nat
  | 0 => 0
  | n + 1 => rkb s n + s / 2 ^ n % 2
def psb (s k : Nat) : Nat := if s % 2 = 1 ∧ k = 0 then 0 else if s / 2 % 2 = 1 ∧ rkb s 1 = k then 1 else if s / 4 % 2 = 1 ∧ rkb s 2 = k then 2 else if s / 8 % 2 = 1 ∧ rkb s 3 = k then 3 else 4
theorem bt1 : ∀ s : Fin 32, ∀ j : Fin 5, (s : Nat) / 2 ^ (j : Nat) % 2 = 1 → psb s (rkb s j) = j ∧ rkb (s - 2 ^ (j : Nat)) 5 + 1 = rkb s 5 ∧ rkb s j < rkb s 5 ∧ rkb ((s : Nat) / 2 ^ ((j : Nat) + 1)) 5 = rkb s 5 - 1 - rkb s j ∧ 2 ^ (j : Nat) ≤ (s : Nat) := by decide +kernel
theorem bt2 : ∀ s : Fin 32, ∀ j : Fin 5, (s : Nat) / 2 ^ (j : Nat) % 2 = 1 → ∀ k : Fin 5, (k : Nat) < rkb s 5 - 1 → psb (s - 2 ^ (j : Nat)) k = psb s (sk (rkb s j) k) := by decide +kernel
theorem bt3 : ∀ s : Fin 32, 0 < (s : Nat) → 0 < rkb s 5 := by decide +kernel
theorem bt4 : ∀ n : Fin 6, rkb (2 ^ (n : Nat) - 1) 5 = n ∧ ∀ k : Fin 5, (k : Nat) < n → psb (2 ^ (n : Nat) - 1) k = k := by decide +kernel
theorem bt5 : ∀ n : Fin 6, ∀ c : Fin 5, (c : Nat) < n → rkb (2 ^ (n : Nat) - 1 - 2 ^ (c : Nat)) 5 = n - 1 ∧ ∀ k : Fin 5, (k : Nat) < n - 1 → psb (2 ^ (n : Nat) - 1 - 2 ^ (c : Nat)) k = sk c k := by decide +kernel
theorem bt6 : ∀ s : Fin 32, ∀ n : Fin 6, (s : Nat) < 2 ^ (n : Nat) → rkb s 5 ≤ n ∧ ∀ j : Fin 5, (n : Nat) ≤ j → (s : Nat) / 2 ^ (j : Nat) % 2 = 0 := by decide +kernel
theorem bt7 : ∀ s : Fin 32, ∀ n : Fin 6, ∀ c : Fin 5, (c : Nat) < n → (s : Nat) < 2 ^ (n : Nat) → (s : Nat) &&& 2 ^ (c : Nat) = 0 → rkb s 5 ≤ n - 1 := by decide +kernel
theorem bt8 : ∀ s : Fin 32, ∀ o : Fin 32, ∀ j : Fin 5, (s : Nat) &&& (o : Nat) = 0 → (s : Nat) / 2 ^ (j : Nat) % 2 = 1 → (s - 2 ^ (j : Nat)) &&& (o : Nat) = 0 := by decide +kernel
theorem i32_and : ∀ s o : Fin 32, (iZ ((s : Nat) : Int) &&& iZ ((o : Nat) : Int)) = iZ (((s : Nat) &&& (o : Nat) : Nat) : Int) := by decide +kernel
theorem i32_bit : ∀ s : Fin 32, ∀ j : Fin 5, (iZ ((s : Nat) : Int) &&& iZ ((2 : Int) ^ (j : Nat))) = iZ (((s : Nat) / 2 ^ (j : Nat) % 2 * 2 ^ (j : Nat) : Nat) : Int) := by decide +kernel
theorem i32_xor : ∀ s : Fin 32, ∀ j : Fin 5, (s : Nat) / 2 ^ (j : Nat) % 2 = 1 → (iZ ((s : Nat) : Int) ^^^ iZ ((2 : Int) ^ (j : Nat))) = iZ ((s - 2 ^ (j : Nat) : Nat) : Int) := by decide +kernel
theorem i32_all : ∀ n : Fin 6, (iZ ((2 : Int) ^ (n : Nat) - 1) &&& (iZ (0 : Int) ^^^ iZ (-1 : Int))) = iZ ((2 ^ (n : Nat) - 1 : Nat) : Int) := by decide +kernel
theorem i32_out : ∀ n : Fin 6, ∀ c : Fin 5, (c : Nat) < n → (iZ ((2 : Int) ^ (n : Nat) - 1) &&& (iZ ((2 : Int) ^ (c : Nat)) ^^^ iZ (-1 : Int))) = iZ ((2 ^ (n : Nat) - 1 - 2 ^ (c : Nat) : Nat) : Int) := by decide +kernel
theorem sgI_sq : ∀ n, sgI n * sgI n = 1
  | 0 => rfl
  | n + 1 => by show - sgI n * - sgI n = 1; rw [Int.neg_mul_neg]; exact sgI_sq n
theorem sgI_sub : ∀ x j, sgI (j + x) * sgI j = sgI x
  | 0, j => sgI_sq j
  | x + 1, j => by show - sgI (j + x) * sgI j = - sgI x; rw [Int.neg_mul, sgI_sub x j]
theorem sgI_par : ∀ n, sgI n = if n % 2 = 0 then 1 else -1
  | 0 => rfl
  | n + 1 => by
    show - sgI n = _
    rw [sgI_par n]
    split <;> split <;> first | rfl | omega
/-- along the last row -/
theorem det_last (n : Nat) (A : Mat) : det (n + 1) A = Sg (fun j => sgI (n - j) * A n j * det n (fun i k => A i (sk j k))) (n + 1) := by
  have h1 := (ml_det (n + 1)).move n A (by omega)
  have h2 : det (n + 1) (cns (A n) (fun l => A (sk n l))) = Sg (fun j => sgI j * A n j * det n (fun i k => A i (sk j k))) (n + 1) := by
    show Sg (fun j => sgI j * A n j * det n (fun i k => A (sk n i) (sk j k))) (n + 1) = _
    exact Sg_congr (fun j hj => by rw [det_congr (A := fun i k => A (sk n i) (sk j k)) (B := fun i k => A i (sk j k)) (fun i k hi hk => by rw [sk_lt hi])])
  have h3 : det (n + 1) A = Sg (fun j => sgI j * A n j * det n (fun i k => A i (sk j k))) (n + 1) * sgI n := by
    rw [← h2, h1, Int.mul_comm (sgI n), Int.mul_assoc, sgI_sq, Int.mul_one]
  rw [h3, ← Sg_mulr]
  refine Sg_congr (fun j hj => ?_)
  have e := sgI_sub (n - j) j
  rw [show j + (n - j) = n by omega] at e
  rw [← e]
  simp only [Int.mul_comm, Int.mul_left_comm, Int.mul_assoc]
theorem sg_bits (s : Nat) (f : Nat → Int) : ∀ m, Sg (fun j => if s / 2 ^ j % 2 = 1 then f (rkb s j) else 0) m = Sg f (rkb s m)
  | 0 => rfl
  | m + 1 => by
    show Sg _ m + (if s / 2 ^ m % 2 = 1 then f (rkb s m) else 0) = Sg f (rkb s m + s / 2 ^ m % 2)
    rw [sg_bits s f m]
    by_cases e : s / 2 ^ m % 2 = 1
    · rw [if_pos e, e]; rfl
    · rw [if_neg e, show s / 2 ^ m % 2 = 0 by omega, Int.add_zero]; rfl
/-- the minor of the first rows and a set of columns -/
def mdS (N : Nat → Int) (rw' : Nat → Nat) (s : Nat) : Int := det (rkb s 5) (fun a b => N (5 * rw' a + psb s b))
theorem mdS_step {N : Nat → Int} {rw' : Nat → Nat} {s : Nat} (h0 : 0 < s) (hs : s < 32) : mdS N rw' s = Sg (fun j => if s / 2 ^ j % 2 = 1 then sgI (rkb s 5 - 1 - rkb s j) * N (5 * rw' (rkb s 5 - 1) + j) * mdS N rw' (s - 2 ^ j) else 0) 5 := by
  have hn := bt3 ⟨s, hs⟩ h0
  obtain ⟨n, hn⟩ : ∃ n, rkb s 5 = n + 1 := ⟨rkb s 5 - 1, by have hn : 0 < rkb s 5 := hn; omega⟩
  have h1 : mdS N rw' s = Sg (fun p => sgI (n - p) * N (5 * rw' n + psb s p) * det n (fun i k => N (5 * rw' i + psb s (sk p k)))) (rkb s 5) := by
    unfold mdS
    rw [hn]
    exact det_last n _
  rw [h1, ← sg_bits s _ 5]
  refine Sg_congr (fun j hj => ?_)
  by_cases e : s / 2 ^ j % 2 = 1
  · rw [if_pos e, if_pos e]
    obtain ⟨f1, f2, f3, -, f5⟩ := bt1 ⟨s, hs⟩ ⟨j, hj⟩ e
    have f1 : psb s (rkb s j) = j := f1
    have f2 : rkb (s - 2 ^ j) 5 + 1 = rkb s 5 := f2
    have f3 : rkb s j < rkb s 5 := f3
    rw [f1, hn, show n + 1 - 1 = n by omega]
    congr 1
    unfold mdS
    rw [show rkb (s - 2 ^ j) 5 = n by omega]
    refine det_congr (fun a k ha hk => ?_)
    have hk5 : k < 5 := by
      have := (bt6 ⟨s, hs⟩ ⟨5, by omega⟩ (show s < 2 ^ 5 by omega)).1
      have : rkb s 5 ≤ 5 := this
      omega
    have f6 : psb (s - 2 ^ j) k = psb s (sk (rkb s j) k) := bt2 ⟨s, hs⟩ ⟨j, hj⟩ e ⟨k, hk5⟩ (show k < rkb s 5 - 1 by omega)
    rw [f6]
  · rw [if_neg e, if_neg e]

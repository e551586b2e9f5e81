/-! ===== determinants as sums over all orders; mathematics alone ===== -/
def fcN : Nat → Nat
  | 0 => 1
  | n + 1 => (n + 1) * fcN n
theorem fcN_pos : ∀ n, 1 ≤ fcN n
  | 0 => Nat.le_refl _
  | n + 1 => by
    have h := fcN_pos n
    show 1 ≤ (n + 1) * fcN n
    have := Nat.mul_le_mul (show 1 ≤ n + 1 by omega) h
    omega
/-- the product that belongs to an order: its first place, then the rest -/
def vlo : Nat → Mat → Nat → Int
  | 0, _, _ => 1
  | k + 1, A, o => sgI (o / fcN k) * A 0 (o / fcN k) * vlo k (fun i c => A (i + 1) (sk (o / fcN k) c)) (o % fcN k)
theorem Sg_blk (f : Nat → Int) (n : Nat) : ∀ m, Sg f (m * n) = Sg (fun a => Sg (fun b => f (a * n + b)) n) m
  | 0 => by rw [Nat.zero_mul]; rfl
  | m + 1 => by
    rw [Nat.succ_mul, Sg_app f (m * n) n, Sg_blk f n m]
    rfl
theorem vlo_sum : ∀ (k : Nat) (A : Mat), Sg (fun o => vlo k A o) (fcN k) = det k A
  | 0, A => by show (0 : Int) + 1 = 1; rfl
  | k + 1, A => by
    show Sg _ ((k + 1) * fcN k) = _
    rw [Sg_blk]
    simp only [det]
    refine Sg_congr (fun a ha => ?_)
    have hp := fcN_pos k
    rw [← vlo_sum k (fun i c => A (i + 1) (sk a c))]
    have e : Sg (fun b => vlo (k + 1) A (a * fcN k + b)) (fcN k) = Sg (fun b => vlo k (fun i c => A (i + 1) (sk a c)) b * (sgI a * A 0 a)) (fcN k) := Sg_congr (fun b hb => by
      have e1 : (a * fcN k + b) / fcN k = a := by rw [Nat.mul_comm, Nat.mul_add_div (by omega), Nat.div_eq_of_lt hb, Nat.add_zero]
      have e2 : (a * fcN k + b) % fcN k = b := by rw [Nat.mul_comm, Nat.mul_add_mod, Nat.mod_eq_of_lt hb]
      show sgI ((a * fcN k + b) / fcN k) * A 0 ((a * fcN k + b) / fcN k) * vlo k (fun i c => A (i + 1) (sk ((a * fcN k + b) / fcN k) c)) ((a * fcN k + b) % fcN k) = _
      rw [e1, e2, Int.mul_comm])
    rw [e, Sg_mulr, Int.mul_comm]
theorem vlo_congr : ∀ {k : Nat} {A B : Mat} {o : Nat}, o < fcN k → (∀ i j, i < k → j < k → A i j = B i j) → vlo k A o = vlo k B o
  | 0, _, _, _, _, _ => rfl
  | k + 1, A, B, o, ho, h => by
    have hp := fcN_pos k
    have hq : o / fcN k < k + 1 := by
      rw [Nat.div_lt_iff_lt_mul (by omega)]
      exact ho
    show _ * _ * vlo k _ _ = _ * _ * vlo k _ _
    rw [h 0 (o / fcN k) (by omega) hq, vlo_congr (A := fun i c => A (i + 1) (sk (o / fcN k) c)) (B := fun i c => B (i + 1) (sk (o / fcN k) c)) (Nat.mod_lt _ (by omega)) (fun i j hi hj => h _ _ (by omega) (by unfold sk; split <;> omega))]
theorem bt14 : ∀ s : Fin 32, ∀ n : Fin 5, (n : Nat) < rkb s 5 → psb s n < 5 ∧ (s : Nat) / 2 ^ (psb s n) % 2 = 1 ∧ rkb s (psb s n) = n := by decide +kernel
theorem bt15 : ∀ s : Fin 32, ∀ n : Fin 5, ∀ j : Fin 5, (n : Nat) < rkb s 5 → (j : Nat) < psb s n → ((s : Nat) / 2 ^ (j : Nat) % 2 = 0 ∨ rkb s j < n) := by decide +kernel
/-- one place of an order: the column is the nth that is free -/
theorem vlo_step {m s rest nth : Nat} {A : Mat} {i : Nat} (hs : s < 32) (hm : rkb s 5 = m + 1) (hr : rest < fcN (m + 1)) (hn : nth = rest / fcN m) : vlo (m + 1) (fun a c => A (i + a) (psb s c)) rest = sgI nth * A i (psb s nth) * vlo m (fun a c => A (i + 1 + a) (psb (s - 2 ^ psb s nth) c)) (rest % fcN m) := by
  have hp := fcN_pos m
  have hq : nth < m + 1 := by
    rw [hn, Nat.div_lt_iff_lt_mul (by omega)]
    exact hr
  have hm5 : rkb s 5 ≤ 5 := (bt6 ⟨s, hs⟩ ⟨5, by omega⟩ (show s < 2 ^ 5 by omega)).1
  obtain ⟨b1, b2, b3⟩ := bt14 ⟨s, hs⟩ ⟨nth, by omega⟩ (show nth < rkb s 5 by omega)
  have b1 : psb s nth < 5 := b1
  have b2 : s / 2 ^ psb s nth % 2 = 1 := b2
  have b3 : rkb s (psb s nth) = nth := b3
  show sgI (rest / fcN m) * A (i + 0) (psb s (rest / fcN m)) * vlo m (fun a c => A (i + (a + 1)) (psb s (sk (rest / fcN m) c))) (rest % fcN m) = _
  rw [← hn, Nat.add_zero]
  congr 1
  refine vlo_congr (Nat.mod_lt _ (by omega)) (fun a c ha hc => ?_)
  have b4 := bt2 ⟨s, hs⟩ ⟨psb s nth, b1⟩ b2 ⟨c, by omega⟩ (show c < rkb s 5 - 1 by omega)
  have b4 : psb (s - 2 ^ psb s nth) c = psb s (sk (rkb s (psb s nth)) c) := b4
  rw [b4, b3, show i + (a + 1) = i + 1 + a by omega]

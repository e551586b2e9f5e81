/-! ===== tidy: mathematics ===== -/
def TOu (A0 A : Mat) (h w : Nat) (l : Nat → Nat) (n : Nat) : Prop :=
  Ech A h w l ∧ SpEq A0 h A h w ∧ (∀ m, m < h → ab (A m (l m)) = ab (A0 m (l m))) ∧ (∀ m, n ≤ m → m < h → 0 < A m (l m)) ∧
  (∀ a b, n ≤ a → a < b → b < h → 0 ≤ A a (l b) ∧ A a (l b) < A b (l b)) ∧ ∀ a, a < n → ∀ j, j < w → A a j = A0 a j
def TIn (A0 A : Mat) (h w : Nat) (l : Nat → Nat) (Y : Int) (i k : Nat) : Prop :=
  Ech A h w l ∧ SpEq A0 h A h w ∧ (∀ m, m < h → ab (A m (l m)) = ab (A0 m (l m))) ∧ (∀ m, i ≤ m → m < h → 0 < A m (l m)) ∧
  (∀ a b, i < a → a < b → b < h → 0 ≤ A a (l b) ∧ A a (l b) < A b (l b)) ∧ (∀ b, i < b → b < k → b < h → 0 ≤ A i (l b) ∧ A i (l b) < A b (l b)) ∧
  (∀ m, m < h → ab (A i (l m)) + ab (A0 m (l m)) ≤ (Y + 1) * 2 ^ (k - (i + 1)) * ab (A0 m (l m))) ∧ ∀ a, a < i → ∀ j, j < w → A a j = A0 a j
theorem TOu.rf {A : Mat} {h w : Nat} {l : Nat → Nat} (e : Ech A h w l) : TOu A A h w l h := ⟨e, SpEq.rf, fun _ _ => rfl, fun m h1 h2 => absurd h1 (by omega), fun a b h1 h2 h3 => absurd h1 (by omega), fun _ _ _ _ => rfl⟩
theorem TOu.stair {A0 A : Mat} {h w : Nat} {l : Nat → Nat} (t : TOu A0 A h w l 0) : Stair A h w l := ⟨t.1, fun i hi => t.2.2.2.1 i (Nat.zero_le _) hi, fun i k h1 h2 => t.2.2.2.2.1 i k (Nat.zero_le _) h1 h2⟩
theorem TIn.out {A0 A : Mat} {h w : Nat} {l : Nat → Nat} {Y : Int} {i : Nat} (t : TIn A0 A h w l Y i h) : TOu A0 A h w l i := by
  obtain ⟨a1, a2, a3, a4, a5, a6, -, a8⟩ := t
  refine ⟨a1, a2, a3, a4, fun a b h1 h2 h3 => ?_, a8⟩
  by_cases hq : a = i
  · subst hq; exact a6 b h2 (by omega) h3
  · exact a5 a b (by omega) h2 h3
/-- a row's sign is made right -/
theorem TOu.inn {A0 A A' : Mat} {h w : Nat} {l : Nat → Nat} {Y : Int} {i : Nat} (t : TOu A0 A h w l (i + 1)) (hi : i < h) (hY : ∀ m, m < h → ab (A0 i (l m)) ≤ Y * ab (A0 m (l m)))
    (h1 : ∀ a, a < h → a ≠ i → ∀ j, j < w → A' a j = A a j) (h2 : (0 < A i (l i) ∧ ∀ j, j < w → A' i j = A i j) ∨ (A i (l i) < 0 ∧ ∀ j, j < w → A' i j = - A i j)) : TIn A0 A' h w l Y i (i + 1) := by
  obtain ⟨a1, a2, a3, a4, a5, a6⟩ := t
  have hl : ∀ m, m < h → l m < w := fun m hm => (a1.1 m hm).1
  have hab : ∀ j, j < w → ab (A' i j) = ab (A0 i j) := fun j hj => by
    rcases h2 with ⟨-, h3⟩ | ⟨-, h3⟩
    · rw [h3 j hj, a6 i (by omega) j hj]
    · rw [h3 j hj, ab_neg, a6 i (by omega) j hj]
  have hz : ∀ j, j < w → (A' i j = 0 ↔ A i j = 0) := fun j hj => by
    rcases h2 with ⟨-, h3⟩ | ⟨-, h3⟩ <;> rw [h3 j hj]
    omega
  refine ⟨⟨fun m hm => ?_, a1.2⟩, ?_, fun m hm => ?_, fun m h3 h4 => ?_, fun a b h3 h4 h5 => ?_, fun b h3 h4 h5 => absurd h3 (by omega), fun m hm => ?_, fun a ha j hj => ?_⟩
  · obtain ⟨b1, b2, b3⟩ := a1.1 m hm
    by_cases hq : m = i
    · subst hq
      exact ⟨b1, fun q => b2 ((hz _ b1).mp q), fun j hj => (hz j (by omega)).mpr (b3 j hj)⟩
    · exact ⟨b1, by rw [h1 m hm hq _ b1]; exact b2, fun j hj => by rw [h1 m hm hq j (by omega)]; exact b3 j hj⟩
  · refine a2.tr ?_
    rcases h2 with ⟨-, h3⟩ | ⟨-, h3⟩
    · exact SpEq.cong (fun a ha j hj => by
        by_cases hq : a = i
        · subst hq; exact (h3 j hj).symm
        · exact (h1 a ha hq j hj).symm)
    · exact SpEq.neg hi h1 h3
  · by_cases hq : m = i
    · subst hq; exact hab _ (hl m hm)
    · rw [h1 m hm hq _ (hl m hm)]; exact a3 m hm
  · by_cases hq : m = i
    · subst hq
      rcases h2 with ⟨h5, h6⟩ | ⟨h5, h6⟩
      · rw [h6 _ (hl m h4)]; exact h5
      · rw [h6 _ (hl m h4)]; omega
    · rw [h1 m h4 hq _ (hl m h4)]; exact a4 m (by omega) h4
  · rw [h1 a (by omega) (by omega) _ (hl b h5), h1 b h5 (by omega) _ (hl b h5)]
    exact a5 a b (by omega) h4 h5
  · rw [hab _ (hl m hm), show i + 1 - (i + 1) = 0 by omega, Int.pow_zero, Int.mul_one, Int.add_mul, Int.one_mul]
    have := hY m hm
    omega
  · rw [h1 a (by omega) (by omega) j hj]; exact a6 a (by omega) j hj
theorem mul_le_cancel {a b c : Int} (hc : 0 < c) (h : a * c ≤ b * c) : a ≤ b := Int.le_of_mul_le_mul_right h hc
/-- the quotient in tidy's step -/
theorem TIn.quo {A0 A : Mat} {h w : Nat} {l : Nat → Nat} {Y : Int} {i k : Nat} (t : TIn A0 A h w l Y i k) (hi : i < k) (hk : k < h) : ab (A i (l k) / A k (l k)) ≤ (Y + 1) * 2 ^ (k - (i + 1)) := by
  obtain ⟨a1, a2, a3, a4, a5, a6, a7, a8⟩ := t
  have hp := a4 k (by omega) hk
  have h1 := a7 k hk
  rw [← a3 k hk, ab_pos (show 0 ≤ A k (l k) by omega)] at h1
  have hm := Int.mul_ediv_add_emod (A i (l k)) (A k (l k))
  have hr0 := Int.emod_nonneg (A i (l k)) (show A k (l k) ≠ 0 by omega)
  have hr1 := Int.emod_lt_of_pos (A i (l k)) hp
  generalize A i (l k) / A k (l k) = q at *
  generalize A i (l k) % A k (l k) = r at *
  refine mul_le_cancel hp (Int.le_trans ?_ h1)
  have e : ab q * A k (l k) = ab (A i (l k) - r) := by rw [← hm, show A k (l k) * q + r - r = A k (l k) * q by omega, ab_mul, ab_pos (show 0 ≤ A k (l k) by omega), Int.mul_comm]
  rw [e]
  have := ab_sub (A i (l k)) r
  rw [ab_pos hr0] at this
  omega
theorem TIn.step {A0 A A' : Mat} {h w : Nat} {l : Nat → Nat} {Y : Int} {i k : Nat} (t : TIn A0 A h w l Y i k) (hi : i < k) (hk : k < h)
    (h1 : ∀ a, a < h → a ≠ i → ∀ j, j < w → A' a j = A a j) (h2 : ∀ j, j < w → A' i j = A i j - A i (l k) / A k (l k) * A k j) : TIn A0 A' h w l Y i (k + 1) := by
  have hq := t.quo hi hk
  obtain ⟨a1, a2, a3, a4, a5, a6, a7, a8⟩ := t
  have hl : ∀ m, m < h → l m < w := fun m hm => (a1.1 m hm).1
  have hp := a4 k (by omega) hk
  have hm := Int.mul_ediv_add_emod (A i (l k)) (A k (l k))
  have hr0 := Int.emod_nonneg (A i (l k)) (show A k (l k) ≠ 0 by omega)
  have hr1 := Int.emod_lt_of_pos (A i (l k)) hp
  have hik : A' i (l k) = A i (l k) % A k (l k) := by rw [h2 _ (hl k hk), Int.mul_comm]; omega
  have hlik := a1.2 i k hi hk
  generalize A i (l k) / A k (l k) = q at *
  generalize A i (l k) % A k (l k) = r at *
  have hbef : ∀ j, j < l k → A' i j = A i j := fun j hj => by
    have := hl k hk
    rw [h2 j (by omega), (a1.1 k hk).2.2 j hj]; omega
  refine ⟨⟨fun m hm => ?_, a1.2⟩, ?_, fun m hm => ?_, fun m h3 h4 => ?_, fun a b h3 h4 h5 => ?_, fun b h3 h4 h5 => ?_, fun m hm => ?_, fun a ha j hj => ?_⟩
  · obtain ⟨b1, b2, b3⟩ := a1.1 m hm
    by_cases hq : m = i
    · subst hq
      exact ⟨b1, by rw [hbef _ hlik]; exact b2, fun j hj => by rw [hbef j (by omega)]; exact b3 j hj⟩
    · exact ⟨b1, by rw [h1 m hm hq _ b1]; exact b2, fun j hj => by rw [h1 m hm hq j (by omega)]; exact b3 j hj⟩
  · exact a2.tr (SpEq.op (i := i) (k := k) (by omega) hk (by omega) h1 h2)
  · by_cases hq : m = i
    · subst hq; rw [hbef _ hlik]; exact a3 m (by omega)
    · rw [h1 m hm hq _ (hl m hm)]; exact a3 m hm
  · by_cases hq : m = i
    · subst hq; rw [hbef _ hlik]; exact a4 m h3 h4
    · rw [h1 m h4 hq _ (hl m h4)]; exact a4 m h3 h4
  · rw [h1 a (by omega) (by omega) _ (hl b h5), h1 b h5 (by omega) _ (hl b h5)]
    exact a5 a b h3 h4 h5
  · rw [h1 b h5 (by omega) _ (hl b h5)]
    by_cases hq : b = k
    · subst hq; rw [hik]; exact ⟨hr0, hr1⟩
    · rw [hbef _ (a1.2 b k (by omega) hk)]; exact a6 b h3 (by omega) h5
  · have h5 := a7 m hm
    have h6 : ab (A k (l m)) ≤ ab (A0 m (l m)) := by
      rcases Nat.lt_trichotomy k m with h7 | h7 | h7
      · have h8 := a5 k m hi h7 hm
        rw [← a3 m hm]
        unfold ab; omega
      · rw [h7, a3 m hm]; exact Int.le_refl _
      · rw [(a1.1 k hk).2.2 _ (a1.2 m k h7 hk)]; exact ab0 _
    have h7 : ab (A' i (l m)) ≤ ab (A i (l m)) + ab q * ab (A k (l m)) := by
      rw [h2 _ (hl m hm), ← ab_mul]; exact ab_sub _ _
    have h8 : ab q * ab (A k (l m)) ≤ (Y + 1) * 2 ^ (k - (i + 1)) * ab (A0 m (l m)) := Int.mul_le_mul hq h6 (ab0 _) (Int.le_trans (ab0 _) hq)
    rw [show k + 1 - (i + 1) = (k - (i + 1)) + 1 by omega, Int.pow_succ, ← Int.mul_assoc, Int.mul_comm _ 2, Int.mul_assoc]
    generalize (Y + 1) * 2 ^ (k - (i + 1)) * ab (A0 m (l m)) = X at *
    omega
  · rw [h1 a (by omega) (by omega) j hj]; exact a8 a ha j hj
/-- the bound of a row in tidy -/
theorem TIn.bd {A0 A : Mat} {h w : Nat} {l : Nat → Nat} {Y K : Int} {i k : Nat} (t : TIn A0 A h w l Y i k) (hL : LB A0 h w K) (hi : i < h) {j : Nat} (hj : j < w) : ab (A i j) ≤ (Y + 1) * 2 ^ (k - (i + 1)) * K := by
  obtain ⟨a1, a2, a3, a4, a5, a6, a7, a8⟩ := t
  have h0 : 0 ≤ (Y + 1) * 2 ^ (k - (i + 1)) := by
    have h1 := a7 i hi
    have h2 : 0 < ab (A0 i (l i)) := by
      rw [← a3 i hi, ab_pos (by have := a4 i (by omega) hi; omega)]; exact a4 i (by omega) hi
    have h3 := ab0 (A i (l i))
    rcases Int.lt_or_le ((Y + 1) * 2 ^ (k - (i + 1))) 0 with h4 | h4
    · have := Int.mul_neg_of_neg_of_pos h4 h2
      omega
    · exact h4
  exact hL A h l a1 a2 (A i) (Span.row hi) _ h0 (fun m hm => by have := a7 m hm; have := ab0 (A0 m (l m)); rw [a3 m hm]; omega) j hj
theorem yb_le {Y K : Int} {t n : Nat} (hY : 0 ≤ Y) (hK : 1 ≤ K) (h : t ≤ n) : (Y + 1) * 2 ^ t * K ≤ (Y + 1) * 2 ^ n * K ∧ (Y + 1) * 2 ^ t ≤ (Y + 1) * 2 ^ n * K := by
  have h1 : (2 : Int) ^ t ≤ 2 ^ n := pw_le (by omega) h
  have h2 : (Y + 1) * 2 ^ t ≤ (Y + 1) * 2 ^ n := Int.mul_le_mul_of_nonneg_left h1 (by omega)
  have h3 : (0 : Int) < 2 ^ t := pw_pos (by omega) t
  have h4 : 0 ≤ (Y + 1) * 2 ^ t := Int.mul_nonneg (by omega) (by omega)
  have h5 : (Y + 1) * 2 ^ t * K ≤ (Y + 1) * 2 ^ n * K := Int.mul_le_mul_of_nonneg_right h2 (by omega)
  have h6 : (Y + 1) * 2 ^ t * 1 ≤ (Y + 1) * 2 ^ t * K := Int.mul_le_mul_of_nonneg_left hK h4
  exact ⟨h5, by omega⟩

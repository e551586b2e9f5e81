/-! ===== lattices: sums of whole multiples of rows; mathematics alone ===== -/
def Sg (f : Nat → Int) : Nat → Int
  | 0 => 0
  | n + 1 => Sg f n + f n
theorem Sg_congr {f h : Nat → Int} : ∀ {n : Nat}, (∀ i, i < n → f i = h i) → Sg f n = Sg h n
  | 0, _ => rfl
  | n + 1, q => by
    simp only [Sg]
    rw [Sg_congr (fun i hi => q i (by omega)), q n (by omega)]
theorem Sg_lin (f h : Nat → Int) (a b : Int) : ∀ n : Nat, Sg (fun i => a * f i + b * h i) n = a * Sg f n + b * Sg h n
  | 0 => by simp [Sg]
  | n + 1 => by
    simp only [Sg]
    rw [Sg_lin f h a b n, Int.mul_add, Int.mul_add]
    omega
theorem Sg_zero {f : Nat → Int} : ∀ {n : Nat}, (∀ i, i < n → f i = 0) → Sg f n = 0
  | 0, _ => rfl
  | n + 1, q => by
    simp only [Sg]
    rw [Sg_zero (fun i hi => q i (by omega)), q n (by omega)]
    rfl
theorem Sg_one {f : Nat → Int} {k : Nat} : ∀ {n : Nat}, k < n → (∀ i, i < n → i ≠ k → f i = 0) → Sg f n = f k
  | 0, h, _ => absurd h (by omega)
  | n + 1, h, q => by
    simp only [Sg]
    by_cases hk : k = n
    · subst hk
      rw [Sg_zero (fun i hi => q i (by omega) (by omega)), Int.zero_add]
    · rw [Sg_one (k := k) (n := n) (by omega) (fun i hi hne => q i (by omega) hne), q n (by omega) (by omega), Int.add_zero]
abbrev Mat : Type := Nat → Nat → Int
def Span (A : Mat) (h w : Nat) (x : Nat → Int) : Prop := ∃ c : Nat → Int, ∀ j, j < w → x j = Sg (fun i => c i * A i j) h
theorem Span.congr {A : Mat} {h w : Nat} {x y : Nat → Int} (k : Span A h w x) (e : ∀ j, j < w → x j = y j) : Span A h w y := by
  obtain ⟨c, hc⟩ := k
  exact ⟨c, fun j hj => (e j hj).symm.trans (hc j hj)⟩
theorem Span.row {A : Mat} {h w i : Nat} (hi : i < h) : Span A h w (A i) := by
  refine ⟨fun k => if k = i then 1 else 0, fun j _ => ?_⟩
  rw [Sg_one hi (fun k _ hne => by simp only [if_neg hne]; exact Int.zero_mul _)]
  simp
theorem Span.lin {A : Mat} {h w : Nat} {x y : Nat → Int} (a b : Int) (k : Span A h w x) (m : Span A h w y) : Span A h w (fun j => a * x j + b * y j) := by
  obtain ⟨c, hc⟩ := k
  obtain ⟨e, he⟩ := m
  refine ⟨fun i => a * c i + b * e i, fun j hj => ?_⟩
  show a * x j + b * y j = _
  rw [hc j hj, he j hj, ← Sg_lin]
  refine Sg_congr (fun i _ => ?_)
  show a * (c i * A i j) + b * (e i * A i j) = (a * c i + b * e i) * A i j
  rw [Int.add_mul, Int.mul_assoc, Int.mul_assoc]
theorem Span.zero {A : Mat} {h w : Nat} : Span A h w (fun _ => 0) := ⟨fun _ => 0, fun j _ => (Sg_zero (fun i _ => by rw [Int.zero_mul])).symm⟩
theorem Span.sub {A : Mat} {h w : Nat} {x y : Nat → Int} {q : Int} (k : Span A h w x) (m : Span A h w y) : Span A h w (fun j => x j - q * y j) := (k.lin 1 (-q) m).congr (fun j _ => by rw [Int.one_mul, Int.neg_mul]; omega)
theorem span_sum {A A' : Mat} {h w : Nat} {c : Nat → Int} : ∀ {n : Nat}, (∀ i, i < n → Span A h w (A' i)) → Span A h w (fun j => Sg (fun i => c i * A' i j) n)
  | 0, _ => Span.zero
  | n + 1, q => by
    have h1 := span_sum (c := c) (n := n) (fun i hi => q i (by omega))
    exact (h1.lin 1 (c n) (q n (by omega))).congr (fun j _ => by simp only [Sg]; rw [Int.one_mul])
theorem span_sub {A A' : Mat} {h h' w : Nat} {x : Nat → Int} (q : ∀ i, i < h' → Span A h w (A' i)) (k : Span A' h' w x) : Span A h w x := by
  obtain ⟨c, hc⟩ := k
  exact (span_sum (c := c) q).congr (fun j hj => (hc j hj).symm)
def SpEq (A : Mat) (h : Nat) (A' : Mat) (h' w : Nat) : Prop := ∀ x, Span A h w x ↔ Span A' h' w x
theorem SpEq.rf {A : Mat} {h w : Nat} : SpEq A h A h w := fun _ => Iff.rfl
theorem SpEq.tr {A B C : Mat} {h k m w : Nat} (p : SpEq A h B k w) (q : SpEq B k C m w) : SpEq A h C m w := fun x => (p x).trans (q x)
theorem SpEq.sy {A B : Mat} {h k w : Nat} (p : SpEq A h B k w) : SpEq B k A h w := fun x => (p x).symm
theorem SpEq.of {A A' : Mat} {h h' w : Nat} (p : ∀ i, i < h → Span A' h' w (A i)) (q : ∀ i, i < h' → Span A h w (A' i)) : SpEq A h A' h' w := fun _ => ⟨span_sub p, span_sub q⟩
theorem SpEq.perm {A A' : Mat} {h h' w : Nat} (p : ∀ i, i < h → ∃ k, k < h' ∧ ∀ j, j < w → A i j = A' k j) (q : ∀ i, i < h' → ∃ k, k < h ∧ ∀ j, j < w → A' i j = A k j) : SpEq A h A' h' w :=
  SpEq.of (fun i hi => by obtain ⟨k, hk, e⟩ := p i hi; exact (Span.row hk).congr (fun j hj => (e j hj).symm)) (fun i hi => by obtain ⟨k, hk, e⟩ := q i hi; exact (Span.row hk).congr (fun j hj => (e j hj).symm))
theorem SpEq.cong {A A' : Mat} {h w : Nat} (p : ∀ i, i < h → ∀ j, j < w → A i j = A' i j) : SpEq A h A' h w := SpEq.perm (fun i hi => ⟨i, hi, p i hi⟩) (fun i hi => ⟨i, hi, fun j hj => (p i hi j hj).symm⟩)
theorem SpEq.op {A A' : Mat} {n w i k : Nat} {q : Int} (hi : i < n) (hk : k < n) (hne : k ≠ i) (h1 : ∀ m, m < n → m ≠ i → ∀ j, j < w → A' m j = A m j) (h2 : ∀ j, j < w → A' i j = A i j - q * A k j) : SpEq A n A' n w := by
  refine SpEq.of (fun m hm => ?_) (fun m hm => ?_)
  · by_cases hq : m = i
    · subst hq
      exact ((Span.row hm).lin 1 q (Span.row hk)).congr (fun j hj => by rw [h2 j hj, h1 k hk hne j hj, Int.one_mul]; omega)
    · exact (Span.row hm).congr (fun j hj => h1 m hm hq j hj)
  · by_cases hq : m = i
    · subst hq
      exact ((Span.row hm).sub (q := q) (Span.row hk)).congr (fun j hj => (h2 j hj).symm)
    · exact (Span.row hm).congr (fun j hj => (h1 m hm hq j hj).symm)
theorem SpEq.neg {A A' : Mat} {n w i : Nat} (hi : i < n) (h1 : ∀ m, m < n → m ≠ i → ∀ j, j < w → A' m j = A m j) (h2 : ∀ j, j < w → A' i j = - A i j) : SpEq A n A' n w := by
  refine SpEq.of (fun m hm => ?_) (fun m hm => ?_)
  · by_cases hq : m = i
    · subst hq
      exact ((Span.row hm).lin (-1) 0 (Span.row hm)).congr (fun j hj => by rw [h2 j hj]; omega)
    · exact (Span.row hm).congr (fun j hj => h1 m hm hq j hj)
  · by_cases hq : m = i
    · subst hq
      exact ((Span.row hm).lin (-1) 0 (Span.row hm)).congr (fun j hj => by rw [h2 j hj]; omega)
    · exact (Span.row hm).congr (fun j hj => (h1 m hm hq j hj).symm)
theorem SpEq.drop {A : Mat} {n w : Nat} (h : ∀ j, j < w → A n j = 0) : SpEq A (n + 1) A n w := by
  refine SpEq.of (fun m hm => ?_) (fun m hm => Span.row (by omega))
  by_cases hq : m = n
  · subst hq
    exact Span.zero.congr (fun j hj => (h j hj).symm)
  · exact Span.row (by omega)
/-- echelon: leads further and further right; the STAIR: leads above 0, numbers above them reduced -/
def Ech (A : Mat) (h w : Nat) (l : Nat → Nat) : Prop := (∀ i, i < h → l i < w ∧ A i (l i) ≠ 0 ∧ ∀ j, j < l i → A i j = 0) ∧ ∀ i k, i < k → k < h → l i < l k
def Stair (A : Mat) (h w : Nat) (l : Nat → Nat) : Prop := Ech A h w l ∧ (∀ i, i < h → 0 < A i (l i)) ∧ ∀ i k, i < k → k < h → 0 ≤ A i (l k) ∧ A i (l k) < A k (l k)
theorem Ech.le_l {A : Mat} {h w : Nat} {l : Nat → Nat} (e : Ech A h w l) : ∀ i, i < h → i ≤ l i
  | 0, _ => Nat.zero_le _
  | i + 1, hi => by
    have h1 := e.le_l i (by omega)
    have h2 := e.2 i (i + 1) (by omega) hi
    omega
theorem Ech.le_w {A : Mat} {h w : Nat} {l : Nat → Nat} (e : Ech A h w l) : h ≤ w := by
  rcases Nat.eq_zero_or_pos h with h0 | h0
  · omega
  · have h1 := e.le_l (h - 1) (by omega)
    have h2 := (e.1 (h - 1) (by omega)).1
    omega
theorem Ech.cong {A A' : Mat} {h w : Nat} {l : Nat → Nat} (e : Ech A h w l) (p : ∀ i, i < h → ∀ j, j < w → A' i j = A i j) : Ech A' h w l := by
  refine ⟨fun i hi => ?_, e.2⟩
  obtain ⟨h1, h2, h3⟩ := e.1 i hi
  exact ⟨h1, by rw [p i hi _ h1]; exact h2, fun j hj => by rw [p i hi j (by omega)]; exact h3 j hj⟩
/-! sizes -/
def ab (x : Int) : Int := (x.natAbs : Int)
theorem ab0 (x : Int) : 0 ≤ ab x := Int.natCast_nonneg _
theorem ab_mul (x y : Int) : ab (x * y) = ab x * ab y := by unfold ab; rw [Int.natAbs_mul, Int.natCast_mul]
theorem ab_sub (x y : Int) : ab (x - y) ≤ ab x + ab y := by unfold ab; omega
theorem ab_neg (x : Int) : ab (-x) = ab x := by unfold ab; omega
theorem ab_pos {x : Int} (h : 0 ≤ x) : ab x = x := by unfold ab; omega
theorem ab_cases (x : Int) : (0 ≤ x ∧ ab x = x) ∨ (x < 0 ∧ ab x = -x) := by unfold ab; omega
/-- a lattice's vectors are bounded by their numbers in the columns of the leads -/
def LB (A : Mat) (n w : Nat) (K : Int) : Prop := ∀ (B : Mat) (h : Nat) (l : Nat → Nat), Ech B h w l → SpEq A n B h w → ∀ v, Span B h w v → ∀ X : Int, 0 ≤ X → (∀ m, m < h → ab (v (l m)) ≤ X * ab (B m (l m))) → ∀ j, j < w → ab (v j) ≤ X * K
theorem LB.eq {A A' : Mat} {n n' w : Nat} {K : Int} (h : LB A n w K) (e : SpEq A n A' n' w) : LB A' n' w K := fun B k l hB hs => h B k l hB (e.tr hs)
theorem Stair.bd {A : Mat} {h w : Nat} {l : Nat → Nat} {K : Int} (s : Stair A h w l) (hL : LB A h w K) {i : Nat} (hi : i < h) {j : Nat} (hj : j < w) : ab (A i j) ≤ K := by
  have h1 := hL A h l s.1 SpEq.rf (A i) (Span.row hi) 1 (by omega) (fun m hm => ?_) j hj
  · rw [Int.one_mul] at h1; exact h1
  · rw [Int.one_mul]
    rcases Nat.lt_trichotomy i m with h2 | h2 | h2
    · have h3 := s.2.2 i m h2 hm
      unfold ab; omega
    · rw [h2]; exact Int.le_refl _
    · rw [(s.1.1 i hi).2.2 (l m) (s.1.2 m i h2 hi)]
      exact ab0 _

/-! ===== the reference: stair and kernel together; mathematics alone ===== -/
def stk (A : Mat) (a : Nat) (B : Mat) : Mat := fun i => if i < a then A i else B (i - a)
theorem stk_lt {A B : Mat} {a i : Nat} (h : i < a) : stk A a B i = A i := by unfold stk; rw [if_pos h]
theorem stk_ge {A B : Mat} {a i : Nat} (h : a ≤ i) : stk A a B i = B (i - a) := by unfold stk; rw [if_neg (by omega)]
theorem span_stk1 {A B : Mat} {a b w : Nat} {x : Nat → Int} (h : Span A a w x) : Span (stk A a B) (a + b) w x := span_sub (fun i hi => by
  have := Span.row (A := stk A a B) (h := a + b) (w := w) (i := i) (by omega)
  rw [stk_lt hi] at this
  exact this) h
theorem span_stk2 {A B : Mat} {a b w : Nat} {x : Nat → Int} (h : Span B b w x) : Span (stk A a B) (a + b) w x := span_sub (fun i hi => by
  have := Span.row (A := stk A a B) (h := a + b) (w := w) (i := a + i) (by omega)
  rw [stk_ge (by omega), show a + i - a = i by omega] at this
  exact this) h
theorem SpEq.stk {A A' B B' : Mat} {a a' b b' w : Nat} (h : SpEq A a A' a' w) (k : SpEq B b B' b' w) : SpEq (stk A a B) (a + b) (stk A' a' B') (a' + b') w := by
  refine SpEq.of (fun i hi => ?_) (fun i hi => ?_)
  · by_cases e : i < a
    · rw [stk_lt e]; exact span_stk1 ((h _).mp (Span.row e))
    · rw [stk_ge (by omega)]; exact span_stk2 ((k _).mp (Span.row (by omega)))
  · by_cases e : i < a'
    · rw [stk_lt e]; exact span_stk1 ((h _).mpr (Span.row e))
    · rw [stk_ge (by omega)]; exact span_stk2 ((k _).mpr (Span.row (by omega)))
def ext5 (A : Mat) : Mat := fun i j => if j < 5 then 0 else A i (j - 5)
theorem span_ext {A : Mat} {a w : Nat} {x : Nat → Int} (h : Span A a w x) : Span (ext5 A) a (5 + w) (fun j => if j < 5 then 0 else x (j - 5)) := by
  obtain ⟨c, hc⟩ := h
  refine ⟨c, fun j hj => ?_⟩
  show (if j < 5 then 0 else x (j - 5)) = Sg (fun i => c i * ext5 A i j) a
  unfold ext5
  by_cases e : j < 5
  · rw [if_pos e, Sg_zero (fun i _ => by rw [if_pos e, Int.mul_zero])]
  · rw [if_neg e, hc (j - 5) (by omega)]
    exact Sg_congr (fun i _ => by rw [if_neg e])
theorem SpEq.ext {A A' : Mat} {a a' w : Nat} (h : SpEq A a A' a' w) : SpEq (ext5 A) a (ext5 A') a' (5 + w) :=
  SpEq.of (fun i hi => span_ext ((h _).mp (Span.row hi))) (fun i hi => span_ext ((h _).mpr (Span.row hi)))
/-- bounds of a lattice: the leads' product, and its vectors by their numbers in the leads' columns; for rank hm at most -/
def LBM (A : Mat) (n w hm : Nat) (K M : Int) : Prop := ∀ (B : Mat) (h : Nat) (l : Nat → Nat), Ech B h w l → SpEq A n B h w → h ≤ hm → Pd (fun i => ab (B i (l i))) h ≤ M ∧ ∀ v, Span B h w v → ∀ X : Int, 0 ≤ X → (∀ m, m < h → ab (v (l m)) ≤ X * ab (B m (l m))) → ∀ j, j < w → ab (v j) ≤ X * K
theorem Stair.bdm {A A1 : Mat} {n h w hm : Nat} {l : Nat → Nat} {K M : Int} (s : Stair A h w l) (hL : LBM A1 n w hm K M) (hs : SpEq A1 n A h w) (hh : h ≤ hm) {i : Nat} (hi : i < h) {j : Nat} (hj : j < w) : ab (A i j) ≤ K := by
  have h1 := (hL A h l s.1 hs hh).2 (A i) (Span.row hi) 1 (by omega) (fun m hm => ?_) j hj
  · rw [Int.one_mul] at h1; exact h1
  · rw [Int.one_mul]
    rcases Nat.lt_trichotomy i m with h2 | h2 | h2
    · have h3 := s.2.2 i m h2 hm
      unfold ab; omega
    · rw [h2]; exact Int.le_refl _
    · rw [(s.1.1 i hi).2.2 (l m) (s.1.2 m i h2 hi)]
      exact ab0 _
/-- weights -/
theorem wts {A : Mat} {h w : Nat} {l : Nat → Nat} {K : Int} (s : Stair A h w l) (hK : 1 ≤ K) (hb : ∀ i j, i < h → j < w → ab (A i j) ≤ K) : ∃ β : Nat → Int, (∀ t, 1 ≤ β t ∧ β t ≤ K) ∧ (∀ i, i < h → β (l i) = A i (l i)) ∧ ∀ i t, i < h → t < w → ab (A i t) ≤ β t := by
  have hex : ∀ t, ∃ b : Int, (1 ≤ b ∧ b ≤ K) ∧ (∀ i, i < h → l i = t → b = A i t) ∧ ∀ i, i < h → t < w → ab (A i t) ≤ b := fun t => by
    by_cases e : ∃ i, i < h ∧ l i = t
    · obtain ⟨i, hi, e⟩ := e
      have hp := s.2.1 i hi
      have hw := (s.1.1 i hi).1
      have hk := hb i (l i) hi hw
      rw [e] at hp hw hk
      rw [ab_pos (by omega)] at hk
      refine ⟨A i t, ⟨by omega, hk⟩, fun k hk2 e2 => ?_, fun k hk2 _ => ?_⟩
      · rcases Nat.lt_trichotomy i k with q | q | q
        · have := s.1.2 i k q hk2; omega
        · rw [q]
        · have := s.1.2 k i q hi; omega
      · rcases Nat.lt_trichotomy i k with q | q | q
        · rw [(s.1.1 k hk2).2.2 t (by have := s.1.2 i k q hk2; omega)]
          have : ab (0 : Int) = 0 := rfl
          omega
        · rw [← q, ab_pos (by omega)]; exact Int.le_refl _
        · have := s.2.2 k i q hi
          rw [e] at this
          rw [ab_pos this.1]; omega
    · exact ⟨K, ⟨hK, Int.le_refl _⟩, fun i hi q => absurd ⟨i, hi, q⟩ e, fun i hi ht => hb i t hi ht⟩
  obtain ⟨β, hβ⟩ := Classical.axiomOfChoice hex
  exact ⟨β, fun t => (hβ t).1, fun i hi => (hβ (l i)).2.1 i hi rfl, fun i t hi ht => (hβ t).2.2 i hi ht⟩
theorem pw1 {x : Int} (hx : 1 ≤ x) (n : Nat) : 1 ≤ x ^ n := by
  have := pw_le hx (Nat.zero_le n)
  rw [Int.pow_zero] at this
  exact this
theorem Pd_pos {f : Nat → Int} {n : Nat} (h : ∀ i, i < n → 1 ≤ f i) : 1 ≤ Pd f n := (Pd_ge h).1
theorem Pd_le {f : Nat → Int} {n : Nat} (h : ∀ i, i < n → 1 ≤ f i) : ∀ {s : Nat}, s ≤ n → Pd f s ≤ Pd f n := by
  induction n with
  | zero => intro s hs; obtain rfl : s = 0 := by omega
            exact Int.le_refl _
  | succ n ih =>
    intro s hs
    by_cases e : s = n + 1
    · rw [e]; exact Int.le_refl _
    · have h1 := ih (fun i hi => h i (by omega)) (s := s) (by omega)
      have h2 : Pd f n * 1 ≤ Pd f n * f n := Int.mul_le_mul_of_nonneg_left (h n (by omega)) (by have := Pd_pos (f := f) (n := n) (fun i hi => h i (by omega)); omega)
      simp only [Pd]
      omega
theorem Pd_congr {f f' : Nat → Int} : ∀ {n : Nat}, (∀ i, i < n → f i = f' i) → Pd f n = Pd f' n
  | 0, _ => rfl
  | n + 1, h => by simp only [Pd]; rw [Pd_congr (fun i hi => h i (by omega)), h n (by omega)]
theorem Pd_add (f : Nat → Int) (a : Nat) : ∀ b, Pd f (a + b) = Pd f a * Pd (fun i => f (a + i)) b
  | 0 => by simp [Pd]
  | b + 1 => by
    rw [← Nat.add_assoc]
    simp only [Pd]
    rw [Pd_add f a b, Int.mul_assoc]
theorem cw_pd {p : Nat → Int} {X : Int} : ∀ s, cw p X s = 2 ^ s * X * Pd p s
  | 0 => by simp [cw, Pd]
  | s + 1 => by
    simp only [cw, Pd]
    rw [cw_pd s, Int.pow_succ]
    have : 2 * p s * (2 ^ s * X * Pd p s) = 2 * (2 ^ s * X * Pd p s) * p s := by rw [Int.mul_assoc 2, Int.mul_comm (p s), ← Int.mul_assoc 2]
    rw [this, Int.mul_comm ((2 : Int) ^ s) 2, Int.mul_assoc 2, Int.mul_assoc 2, Int.mul_assoc 2, Int.mul_assoc, Int.mul_assoc]
theorem cw_le {p : Nat → Int} {X M : Int} {s : Nat} (hX : 1 ≤ X) (hp : Pd p s ≤ M) (hp1 : 1 ≤ Pd p s) (hs : s ≤ 10) : cw p X s ≤ 1024 * X * M := by
  rw [cw_pd]
  have h1 : (2 : Int) ^ s ≤ 2 ^ 10 := pw_le (by omega) hs
  have h2 : (2 : Int) ^ 10 = 1024 := by decide
  have h3 := pw1 (show (1 : Int) ≤ 2 by omega) s
  have h4 : 2 ^ s * X ≤ 1024 * X := Int.mul_le_mul_of_nonneg_right (by omega) (by omega)
  exact Int.mul_le_mul h4 hp (by omega) (by omega)
def KEx (zs : Nat → Int) : Mat := ext5 (BMx 165 10 zs)
def CMx (r : Nat) (zs : Nat → Int) : Mat := stk (BMx 0 15 zs) r (KEx zs)
def CIx (r : Nat) (zs : Nat → Int) : Mat := stk (GMx 0 15 r zs) (r + 1) (KEx zs)
def lcx (r : Nat) (l lk : Nat → Nat) : Nat → Nat := fun i => if i < r then l i else 5 + lk (i - r)
theorem cm_s {r i : Nat} {zs : Nat → Int} (h : i < r) (j : Nat) : CMx r zs i j = zs (15 * i + j) := by
  unfold CMx
  rw [stk_lt h]
  unfold BMx
  rw [Nat.zero_add]
theorem cm_k {r c : Nat} {zs : Nat → Int} (j : Nat) : CMx r zs (r + c) j = if j < 5 then 0 else zs (165 + 10 * c + (j - 5)) := by
  unfold CMx
  rw [stk_ge (by omega), show r + c - r = c by omega]
  rfl
theorem lcx_s {r i : Nat} {l lk : Nat → Nat} (h : i < r) : lcx r l lk i = l i := by unfold lcx; rw [if_pos h]
theorem lcx_k {r c : Nat} {l lk : Nat → Nat} : lcx r l lk (r + c) = 5 + lk c := by unfold lcx; rw [if_neg (by omega), show r + c - r = c by omega]
/-- stair rows reduced among themselves, the kernel's rows too: echelon together -/
theorem cm_ech {r κ : Nat} {zs : Nat → Int} {l lk : Nat → Nat} (hs : Ech (BMx 0 15 zs) r 15 l) (hl : ∀ i, i < r → l i < 5) (hk : Ech (BMx 165 10 zs) κ 10 lk) : Ech (CMx r zs) (r + κ) 15 (lcx r l lk) := by
  refine ⟨fun i hi => ?_, fun i k h1 h2 => ?_⟩
  · by_cases e : i < r
    · rw [lcx_s e]
      obtain ⟨a1, a2, a3⟩ := hs.1 i e
      have e2 : ∀ j, CMx r zs i j = BMx 0 15 zs i j := fun j => by unfold CMx; rw [stk_lt e]
      exact ⟨a1, by rw [e2]; exact a2, fun j hj => by rw [e2]; exact a3 j hj⟩
    · obtain ⟨c, rfl⟩ : ∃ c, i = r + c := ⟨i - r, by omega⟩
      rw [lcx_k]
      obtain ⟨a1, a2, a3⟩ := hk.1 c (by omega)
      refine ⟨by omega, ?_, fun j hj => ?_⟩
      · rw [cm_k, if_neg (by omega), show 5 + lk c - 5 = lk c by omega]; exact a2
      · rw [cm_k]
        split
        · rfl
        · exact a3 (j - 5) (by omega)
  · by_cases e1 : i < r
    · rw [lcx_s e1]
      by_cases e2 : k < r
      · rw [lcx_s e2]; exact hs.2 i k h1 e2
      · obtain ⟨c, rfl⟩ : ∃ c, k = r + c := ⟨k - r, by omega⟩
        rw [lcx_k]
        have := hl i e1
        omega
    · obtain ⟨c, rfl⟩ : ∃ c, i = r + c := ⟨i - r, by omega⟩
      obtain ⟨e, rfl⟩ : ∃ e, k = r + e := ⟨k - r, by omega⟩
      rw [lcx_k, lcx_k]
      have := hk.2 c e (by omega) (by omega)
      omega
theorem cm_stair {r κ : Nat} {zs : Nat → Int} {l lk : Nat → Nat} (hs : Stair (BMx 0 15 zs) r 15 l) (hl : ∀ i, i < r → l i < 5) (hk : Stair (BMx 165 10 zs) κ 10 lk) (hx : ∀ i c, i < r → c < κ → 0 ≤ zs (15 * i + 5 + lk c) ∧ zs (15 * i + 5 + lk c) < zs (165 + 10 * c + lk c)) : Stair (CMx r zs) (r + κ) 15 (lcx r l lk) := by
  refine ⟨cm_ech hs.1 hl hk.1, fun i hi => ?_, fun i k h1 h2 => ?_⟩
  · by_cases e : i < r
    · rw [lcx_s e]
      unfold CMx; rw [stk_lt e]; exact hs.2.1 i e
    · obtain ⟨c, rfl⟩ : ∃ c, i = r + c := ⟨i - r, by omega⟩
      rw [lcx_k, cm_k, if_neg (by omega), show 5 + lk c - 5 = lk c by omega]
      exact hk.2.1 c (by omega)
  · by_cases e1 : i < r
    · by_cases e2 : k < r
      · rw [lcx_s e2]
        unfold CMx; rw [stk_lt e1, stk_lt e2]; exact hs.2.2 i k h1 e2
      · obtain ⟨c, rfl⟩ : ∃ c, k = r + c := ⟨k - r, by omega⟩
        rw [lcx_k, cm_k, if_neg (by omega), cm_s e1, show 5 + lk c - 5 = lk c by omega, show 15 * i + (5 + lk c) = 15 * i + 5 + lk c by omega]
        exact hx i c e1 (by omega)
    · obtain ⟨c, rfl⟩ : ∃ c, i = r + c := ⟨i - r, by omega⟩
      obtain ⟨e, rfl⟩ : ∃ e, k = r + e := ⟨k - r, by omega⟩
      rw [lcx_k, cm_k, cm_k, if_neg (by omega), if_neg (by omega), show 5 + lk e - 5 = lk e by omega]
      exact hk.2.2 c e (by omega) (by omega)
/-- back: the parts of a combined STAIR -/
theorem cm_parts {r κ : Nat} {zs : Nat → Int} {l lk : Nat → Nat} (s : Stair (CMx r zs) (r + κ) 15 (lcx r l lk)) (hl : ∀ i, i < r → l i < 5) : Stair (BMx 0 15 zs) r 15 l ∧ Stair (BMx 165 10 zs) κ 10 lk ∧ ∀ i c, i < r → c < κ → 0 ≤ zs (15 * i + 5 + lk c) ∧ zs (15 * i + 5 + lk c) < zs (165 + 10 * c + lk c) := by
  have eS : ∀ i, i < r → ∀ j, CMx r zs i j = BMx 0 15 zs i j := fun i h j => by unfold CMx; rw [stk_lt h]
  have eK : ∀ c j, CMx r zs (r + c) (5 + j) = BMx 165 10 zs c j := fun c j => by
    rw [cm_k, if_neg (by omega), show 5 + j - 5 = j by omega]
    rfl
  refine ⟨⟨⟨fun i hi => ?_, fun i k h1 h2 => ?_⟩, fun i hi => ?_, fun i k h1 h2 => ?_⟩, ⟨⟨fun i hi => ?_, fun i k h1 h2 => ?_⟩, fun i hi => ?_, fun i k h1 h2 => ?_⟩, fun i c hi hc => ?_⟩
  · have := s.1.1 i (by omega)
    rw [lcx_s hi] at this
    obtain ⟨a1, a2, a3⟩ := this
    exact ⟨a1, by rw [← eS i hi]; exact a2, fun j hj => by rw [← eS i hi]; exact a3 j hj⟩
  · have := s.1.2 i k h1 (by omega)
    rw [lcx_s (by omega), lcx_s h2] at this
    exact this
  · have := s.2.1 i (by omega)
    rw [lcx_s hi, eS i hi] at this
    exact this
  · have := s.2.2 i k h1 (by omega)
    rw [lcx_s h2, eS i (by omega), eS k h2] at this
    exact this
  · have := s.1.1 (r + i) (by omega)
    rw [lcx_k] at this
    obtain ⟨a1, a2, a3⟩ := this
    rw [eK] at a2
    exact ⟨by omega, a2, fun j hj => by rw [← eK]; exact a3 (5 + j) (by omega)⟩
  · have := s.1.2 (r + i) (r + k) (by omega) (by omega)
    rw [lcx_k, lcx_k] at this
    omega
  · have := s.2.1 (r + i) (by omega)
    rw [lcx_k, eK] at this
    exact this
  · have := s.2.2 (r + i) (r + k) (by omega) (by omega)
    rw [lcx_k, eK, eK] at this
    exact this
  · have := s.2.2 i (r + c) (by omega) (by omega)
    rw [lcx_k, eK, cm_s hi, show 15 * i + (5 + lk c) = 15 * i + 5 + lk c by omega] at this
    exact this

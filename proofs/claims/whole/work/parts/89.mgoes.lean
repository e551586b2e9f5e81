/-! ===== the reference: a row comes in; mathematics alone ===== -/
def cw (p : Nat → Int) (X : Int) : Nat → Int
  | 0 => X
  | s + 1 => 2 * p s * cw p X s
theorem cw_ge {p : Nat → Int} {X : Int} (hX : 1 ≤ X) {h : Nat} (hp : ∀ i, i < h → 1 ≤ p i) : ∀ s, s ≤ h → 1 ≤ cw p X s ∧ (∀ i, i ≤ s → cw p X i ≤ cw p X s)
  | 0, _ => ⟨hX, fun i hi => by obtain rfl : i = 0 := by omega
                                exact Int.le_refl _⟩
  | s + 1, hs => by
    obtain ⟨h1, h2⟩ := cw_ge hX hp s (by omega)
    have h3 := hp s (by omega)
    have h4 : 1 * cw p X s ≤ 2 * p s * cw p X s := Int.mul_le_mul_of_nonneg_right (by omega) (by omega)
    refine ⟨by simp only [cw]; omega, fun i hi => ?_⟩
    by_cases hq : i = s + 1
    · rw [hq]; exact Int.le_refl _
    · have := h2 i (by omega)
      simp only [cw]
      omega
/-- what a coming row needs of the rows that stand -/
def GPr (A0 : Mat) (h w Lc : Nat) (l : Nat → Nat) (β : Nat → Int) (X : Int) : Prop :=
  (∀ i, i < h → 0 < A0 i (l i) ∧ (∀ t, t < l i → A0 i t = 0) ∧ (∀ t, t < w → ab (A0 i t) ≤ β t) ∧ β (l i) ≤ A0 i (l i) ∧ l i < Lc) ∧ (∀ i k, i < k → k < h → l i < l k) ∧ (∀ t, 1 ≤ β t) ∧ 1 ≤ X ∧ Lc ≤ w ∧ ∀ t, t < w → ab (A0 h t) ≤ X * β t
def GIv (A0 A : Mat) (h w : Nat) (l : Nat → Nat) (β : Nat → Int) (X : Int) (s j : Nat) : Prop :=
  SpEq A0 (h + 1) A (h + 1) w ∧ s ≤ h ∧ (∀ i, i < s → l i < j) ∧ (∀ i, s ≤ i → i < h → j ≤ l i) ∧ (∀ i, s ≤ i → i < h → ∀ t, t < w → A i t = A0 i t) ∧
  (∀ i, i < s → 0 < A i (l i) ∧ (∀ t, t < l i → A i t = 0) ∧ ∀ t, t < w → ab (A i t) ≤ cw (fun k => A0 k (l k)) X (i + 1) * β t) ∧
  (∀ t, t < j → A h t = 0) ∧ ∀ t, t < w → ab (A h t) ≤ cw (fun k => A0 k (l k)) X s * β t
section GIs
variable {A0 A A' : Mat} {h w Lc : Nat} {l : Nat → Nat} {β : Nat → Int} {X : Int} {s j : Nat}
theorem GPr.pos (g : GPr A0 h w Lc l β X) : ∀ i, i < h → 1 ≤ (fun k => A0 k (l k)) i := fun i hi => by
  have h9 : 0 < A0 i (l i) := (g.1 i hi).1
  show 1 ≤ A0 i (l i)
  omega
theorem GPr.cw1 (g : GPr A0 h w Lc l β X) {s : Nat} (hs : s ≤ h) : 1 ≤ cw (fun k => A0 k (l k)) X s := (cw_ge g.2.2.2.1 g.pos s hs).1
theorem GIv.zero (g : GPr A0 h w Lc l β X) : GIv A0 A0 h w l β X 0 0 := ⟨SpEq.rf, Nat.zero_le _, fun i hi => absurd hi (by omega), fun _ _ _ => Nat.zero_le _, fun _ _ _ _ _ => rfl, fun i hi => absurd hi (by omega), fun t ht => absurd ht (by omega), g.2.2.2.2.2⟩
theorem GIv.skip (g : GPr A0 h w Lc l β X) (k : GIv A0 A h w l β X s j) (h0 : A h j = 0) : ∃ s', GIv A0 A h w l β X s' (j + 1) := by
  obtain ⟨k1, k2, k3, k4, k5, k6, k7, k8⟩ := k
  by_cases hq : s < h ∧ l s = j
  · refine ⟨s + 1, k1, by omega, fun i hi => ?_, fun i h1 h2 => ?_, fun i h1 h2 => k5 i (by omega) h2, fun i hi => ?_, fun t ht => ?_, fun t ht => ?_⟩
    · by_cases e : i = s
      · rw [e, hq.2]; omega
      · have := k3 i (by omega); omega
    · have := g.2.1 s i (by omega) h2; omega
    · by_cases e : i = s
      · subst e
        obtain ⟨a1, a2, a3, -, a5⟩ := g.1 i hq.1
        have hlw : l i < w := by have := g.2.2.2.2.1; omega
        refine ⟨by rw [k5 i (Nat.le_refl _) hq.1 _ hlw]; exact a1, fun t ht => by rw [k5 i (Nat.le_refl _) hq.1 _ (by omega)]; exact a2 t ht, fun t ht => ?_⟩
        rw [k5 i (Nat.le_refl _) hq.1 _ ht]
        have h1 := a3 t ht
        have h2 : 1 * β t ≤ cw (fun k => A0 k (l k)) X (i + 1) * β t := Int.mul_le_mul_of_nonneg_right (g.cw1 (by omega)) (by have := g.2.2.1 t; omega)
        omega
      · exact k6 i (by omega)
    · by_cases e : t = j
      · rw [e]; exact h0
      · exact k7 t (by omega)
    · have h1 := k8 t ht
      have h2 : cw (fun k => A0 k (l k)) X s * β t ≤ cw (fun k => A0 k (l k)) X (s + 1) * β t := Int.mul_le_mul_of_nonneg_right ((cw_ge g.2.2.2.1 g.pos (s + 1) (by omega)).2 s (by omega)) (by have := g.2.2.1 t; omega)
      omega
  · refine ⟨s, k1, k2, fun i hi => by have := k3 i hi; omega, fun i h1 h2 => ?_, k5, k6, fun t ht => ?_, k8⟩
    · have h3 := k4 i h1 h2
      by_cases e : i = s
      · subst e
        have : l i ≠ j := fun q => hq ⟨h2, q⟩
        omega
      · have := g.2.1 s i (by omega) h2
        have := k4 s (Nat.le_refl _) (by omega)
        omega
    · by_cases e : t = j
      · rw [e]; exact h0
      · exact k7 t (by omega)
/-- the sizes that one euclid may come to -/
theorem GIv.eT (g : GPr A0 h w Lc l β X) (k : GIv A0 A h w l β X s j) (hs : s < h) (hl : l s = j) {t : Nat} (ht : t < w) : ab (A s t) * ab (A h j) + ab (A h t) * ab (A s j) ≤ cw (fun k => A0 k (l k)) X (s + 1) * β t := by
  obtain ⟨k1, k2, k3, k4, k5, k6, k7, k8⟩ := k
  obtain ⟨a1, a2, a3, a4, a5⟩ := g.1 s hs
  have hlw : j < w := by have := g.2.2.2.2.1; omega
  rw [hl] at a1 a4
  have e1 : A s t = A0 s t := k5 s (Nat.le_refl _) hs t ht
  have e2 : A s j = A0 s j := k5 s (Nat.le_refl _) hs j hlw
  have b1 := a3 t ht
  have b2 := k8 j hlw
  have b3 := k8 t ht
  have hb := g.2.2.1 t
  have hc := g.cw1 (s := s) (by omega)
  rw [e1, e2, ab_pos (show 0 ≤ A0 s j by omega)]
  simp only [cw]
  rw [hl]
  generalize cw (fun k => A0 k (l k)) X s = c at *
  have d1 : ab (A h j) ≤ c * A0 s j := Int.le_trans b2 (Int.mul_le_mul_of_nonneg_left a4 (by omega))
  have d2 : ab (A0 s t) * ab (A h j) ≤ β t * (c * A0 s j) := Int.mul_le_mul b1 d1 (ab0 _) (by omega)
  have d3 : ab (A h t) * A0 s j ≤ c * β t * A0 s j := Int.mul_le_mul_of_nonneg_right b3 (by omega)
  have d4 : β t * (c * A0 s j) = c * β t * A0 s j := by rw [← Int.mul_assoc, Int.mul_comm (β t) c]
  have d5 : 2 * A0 s j * c * β t = 2 * (c * β t * A0 s j) := by
    rw [Int.mul_assoc 2, Int.mul_assoc 2, Int.mul_comm (A0 s j) c, Int.mul_assoc c, Int.mul_comm (A0 s j) (β t), ← Int.mul_assoc c]
  omega
theorem uni_sp {n : Nat} {i : Nat} (hi : i < n) (h1 : ∀ m, m < n → m ≠ i → ∀ t, t < w → A' m t = A m t) (hu : Uni w (A i) (A n) (A' i) (A' n)) : SpEq A (n + 1) A' (n + 1) w := by
  obtain ⟨s, t, u, v, s', t', u', v', hu⟩ := hu
  refine SpEq.of (fun m hm => ?_) (fun m hm => ?_)
  · by_cases e1 : m = i
    · subst e1
      exact ((Span.row (i := m) (by omega)).lin s' t' (Span.row (i := n) (by omega))).congr (fun j hj => (hu j hj).2.2.1.symm)
    · by_cases e2 : m = n
      · subst e2
        exact ((Span.row (i := i) (by omega)).lin u' v' (Span.row (i := m) (by omega))).congr (fun j hj => (hu j hj).2.2.2.symm)
      · exact (Span.row (i := m) (by omega)).congr (fun j hj => h1 m (by omega) e1 j hj)
  · by_cases e1 : m = i
    · subst e1
      exact ((Span.row (i := m) (by omega)).lin s t (Span.row (i := n) (by omega))).congr (fun j hj => (hu j hj).1.symm)
    · by_cases e2 : m = n
      · subst e2
        exact ((Span.row (i := i) (by omega)).lin u v (Span.row (i := m) (by omega))).congr (fun j hj => (hu j hj).2.1.symm)
      · exact (Span.row (i := m) (by omega)).congr (fun j hj => (h1 m (by omega) e1 j hj).symm)
theorem GIv.euc (g : GPr A0 h w Lc l β X) (k : GIv A0 A h w l β X s j) (hs : s < h) (hl : l s = j) (h1 : ∀ m, m < h → m ≠ s → ∀ t, t < w → A' m t = A m t) (hu : Uni w (A s) (A h) (A' s) (A' h)) (h0 : A' h j = 0) (hp : 0 < A' s j) (hb : ∀ t, t < w → ab (A' s t) ≤ cw (fun k => A0 k (l k)) X (s + 1) * β t ∧ ab (A' h t) ≤ cw (fun k => A0 k (l k)) X (s + 1) * β t) : GIv A0 A' h w l β X (s + 1) (j + 1) := by
  obtain ⟨k1, k2, k3, k4, k5, k6, k7, k8⟩ := k
  have hlw : j < w := by have := g.2.2.2.2.1; have := (g.1 s hs).2.2.2.2; omega
  have hz : ∀ t, t < j → A' s t = 0 ∧ A' h t = 0 := fun t ht => by
    obtain ⟨x1, x2, x3, x4, x5, x6, x7, x8, hu⟩ := hu
    obtain ⟨q1, q2, -⟩ := hu t (by omega)
    have e1 : A s t = 0 := (k5 s (Nat.le_refl _) hs t (by omega)).trans ((g.1 s hs).2.1 t (by omega))
    rw [e1, k7 t ht, Int.mul_zero, Int.mul_zero] at q1 q2
    exact ⟨q1, q2⟩
  refine ⟨k1.tr (uni_sp hs h1 hu), by omega, fun i hi => ?_, fun i h3 h4 => ?_, fun i h3 h4 t ht => ?_, fun i hi => ?_, fun t ht => ?_, fun t ht => (hb t ht).2⟩
  · by_cases e : i = s
    · rw [e, hl]; omega
    · have := k3 i (by omega); omega
  · have := g.2.1 s i (by omega) h4; omega
  · rw [h1 i h4 (by omega) t ht]; exact k5 i (by omega) h4 t ht
  · by_cases e : i = s
    · subst e
      rw [hl]
      exact ⟨hp, fun t ht => (hz t ht).1, fun t ht => (hb t ht).1⟩
    · obtain ⟨c1, c2, c3⟩ := k6 i (by omega)
      have hli := k3 i (by omega)
      exact ⟨by rw [h1 i (by omega) e _ (by omega)]; exact c1, fun t ht => by rw [h1 i (by omega) e _ (by omega)]; exact c2 t ht, fun t ht => by rw [h1 i (by omega) e t ht]; exact c3 t ht⟩
  · by_cases e : t = j
    · rw [e]; exact h0
    · exact (hz t (by omega)).2
/-- no row was added: the coming row is 0 up to Lc -/
def GNo (A0 A : Mat) (h w Lc : Nat) (l : Nat → Nat) (β : Nat → Int) (X : Int) : Prop :=
  SpEq A0 (h + 1) A (h + 1) w ∧ (∀ i, i < h → 0 < A i (l i) ∧ (∀ t, t < l i → A i t = 0) ∧ ∀ t, t < w → ab (A i t) ≤ cw (fun k => A0 k (l k)) X (i + 1) * β t) ∧ (∀ t, t < Lc → A h t = 0) ∧ ∀ t, t < w → ab (A h t) ≤ cw (fun k => A0 k (l k)) X h * β t
theorem GIv.fin (g : GPr A0 h w Lc l β X) (k : GIv A0 A h w l β X s Lc) : GNo A0 A h w Lc l β X := by
  obtain ⟨k1, k2, k3, k4, k5, k6, k7, k8⟩ := k
  have hs : s = h := by
    rcases Nat.lt_or_ge s h with q | q
    · have := k4 s (Nat.le_refl _) q
      have := (g.1 s q).2.2.2.2
      omega
    · omega
  subst hs
  exact ⟨k1, k6, k7, k8⟩
/-- a row was added at s, its lead in column j -/
def GYe (A0 A : Mat) (h w Lc : Nat) (l : Nat → Nat) (β : Nat → Int) (X : Int) (s j : Nat) : Prop :=
  SpEq A0 (h + 1) A (h + 1) w ∧ s ≤ h ∧ j < Lc ∧ (∀ i, i < s → l i < j) ∧ (∀ i, s ≤ i → i < h → j < l i) ∧
  (∀ i, i < h + 1 → 0 < A i (insF l s h j i) ∧ (∀ t, t < insF l s h j i → A i t = 0)) ∧
  (∀ i, i < s → ∀ t, t < w → ab (A i t) ≤ cw (fun k => A0 k (l k)) X (i + 1) * β t) ∧ (∀ t, t < w → ab (A s t) ≤ cw (fun k => A0 k (l k)) X s * β t) ∧ ∀ i, s < i → i < h + 1 → ∀ t, t < w → ab (A i t) ≤ β t
theorem GIv.ins {ε : Int} (g : GPr A0 h w Lc l β X) (k : GIv A0 A h w l β X s j) (hj : j < Lc) (hne : s = h ∨ l s ≠ j) (hε : ε = 1 ∨ ε = -1) (hp : 0 < ε * A h j) (h1 : ∀ i, i < s → ∀ t, t < w → A' i t = A i t) (h2 : ∀ t, t < w → A' s t = ε * A h t) (h3 : ∀ i, s < i → i ≤ h → ∀ t, t < w → A' i t = A (i - 1) t) : GYe A0 A' h w Lc l β X s j := by
  obtain ⟨k1, k2, k3, k4, k5, k6, k7, k8⟩ := k
  have hLw := g.2.2.2.2.1
  have hεε : ε * ε = 1 := by rcases hε with q | q <;> rw [q] <;> rfl
  have hεa : ∀ x : Int, ab (ε * x) = ab x := fun x => by rcases hε with q | q <;> rw [q] <;> unfold ab <;> omega
  have k4' : ∀ i, s ≤ i → i < h → j < l i := fun i q1 q2 => by
    have q3 := k4 i q1 q2
    by_cases e : i = s
    · subst e
      have := hne.resolve_left (by omega)
      omega
    · have := g.2.1 s i (by omega) q2
      have := k4 s (Nat.le_refl _) (by omega)
      omega
  refine ⟨k1.tr (SpEq.of (fun m hm => ?_) (fun m hm => ?_)), k2, hj, k3, k4', fun i hi => ?_, fun i hi t ht => by rw [h1 i hi t ht]; exact (k6 i hi).2.2 t ht, fun t ht => by rw [h2 t ht, hεa]; exact k8 t ht, fun i q1 q2 t ht => ?_⟩
  · by_cases e1 : m < s
    · exact (Span.row (i := m) (by omega)).congr (fun t ht => h1 m e1 t ht)
    · by_cases e2 : m = h
      · subst e2
        exact ((Span.row (A := A') (h := m + 1) (w := w) (i := s) (by omega)).lin ε 0 (Span.row (i := s) (by omega))).congr (fun t ht => by rw [h2 t ht, ← Int.mul_assoc, hεε]; omega)
      · exact (Span.row (A := A') (h := h + 1) (w := w) (i := m + 1) (by omega)).congr (fun t ht => by rw [h3 (m + 1) (by omega) (by omega) t ht]; rfl)
  · by_cases e1 : m < s
    · exact (Span.row (i := m) (by omega)).congr (fun t ht => (h1 m e1 t ht).symm)
    · by_cases e2 : m = s
      · subst e2
        exact ((Span.row (A := A) (h := h + 1) (w := w) (i := h) (by omega)).lin ε 0 (Span.row (i := h) (by omega))).congr (fun t ht => by rw [h2 t ht]; omega)
      · exact (Span.row (A := A) (h := h + 1) (w := w) (i := m - 1) (by omega)).congr (fun t ht => (h3 m (by omega) (by omega) t ht).symm)
  · by_cases e1 : i < s
    · rw [ins_lt e1]
      obtain ⟨c1, c2, c3⟩ := k6 i e1
      have hli := k3 i e1
      exact ⟨by rw [h1 i e1 _ (by omega)]; exact c1, fun t ht => by rw [h1 i e1 _ (by omega)]; exact c2 t ht⟩
    · by_cases e2 : i = s
      · subst e2
        rw [ins_eq]
        refine ⟨by rw [h2 j (by omega)]; exact hp, fun t ht => by rw [h2 t (by omega), k7 t ht, Int.mul_zero]⟩
      · rw [ins_gt (by omega) (by omega)]
        obtain ⟨a1, a2, a3, a4, a5⟩ := g.1 (i - 1) (by omega)
        exact ⟨by rw [h3 i (by omega) (by omega) _ (by omega), k5 (i - 1) (by omega) (by omega) _ (by omega)]; exact a1, fun t ht => by rw [h3 i (by omega) (by omega) _ (by omega), k5 (i - 1) (by omega) (by omega) _ (by omega)]; exact a2 t ht⟩
  · rw [h3 i q1 (by omega) t ht, k5 (i - 1) (by omega) (by omega) t ht]
    exact (g.1 (i - 1) (by omega)).2.2.1 t ht
end GIs

/-! ===== the STAIR of a lattice is its only one ===== -/
theorem ech_at {A : Mat} {h w : Nat} {l : Nat → Nat} (e : Ech A h w l) {c v : Nat → Int} (hv : ∀ j, j < w → v j = Sg (fun i => c i * A i j) h) {m : Nat} (hm : m < h) (hc : ∀ k, k < m → c k = 0) : v (l m) = c m * A m (l m) := by
  rw [hv _ (e.1 m hm).1]
  refine Sg_one hm (fun i hi hne => ?_)
  rcases Nat.lt_or_ge i m with h1 | h1
  · rw [hc i h1, Int.zero_mul]
  · rw [(e.1 i hi).2.2 (l m) (e.2 m i (by omega) hi), Int.mul_zero]
theorem ech_coef {A : Mat} {h w : Nat} {l : Nat → Nat} (e : Ech A h w l) {c v : Nat → Int} (hv : ∀ j, j < w → v j = Sg (fun i => c i * A i j) h) : ∀ m, m ≤ h → (∀ k, k < m → v (l k) = 0) → ∀ k, k < m → c k = 0
  | 0, _, _, k, hk => absurd hk (by omega)
  | m + 1, hm, h0, k, hk => by
    have h1 := ech_coef e hv m (by omega) (fun k hk => h0 k (by omega))
    by_cases hq : k = m
    · subst hq
      have h2 := ech_at e hv (m := k) (by omega) h1
      rw [h0 k (by omega)] at h2
      rcases Int.mul_eq_zero.mp h2.symm with h3 | h3
      · exact h3
      · exact absurd h3 (e.1 k (by omega)).2.1
    · exact h1 k (by omega)
/-- a vector of the lattice that is 0 in the columns of all leads is 0 -/
theorem ech_zero {A : Mat} {h w : Nat} {l : Nat → Nat} (e : Ech A h w l) {v : Nat → Int} (hv : Span A h w v) (h0 : ∀ k, k < h → v (l k) = 0) : ∀ j, j < w → v j = 0 := fun j hj => by
  obtain ⟨c, hc⟩ := hv
  rw [hc j hj]
  exact Sg_zero (fun i hi => by rw [ech_coef e hc h (Nat.le_refl _) h0 i hi, Int.zero_mul])
/-- its number in the column of the first lead where it isn't 0 is a multiple of the lead -/
theorem ech_mul {A : Mat} {h w : Nat} {l : Nat → Nat} (e : Ech A h w l) {v : Nat → Int} (hv : Span A h w v) {m : Nat} (hm : m < h) (h0 : ∀ k, k < m → v (l k) = 0) : ∃ q, v (l m) = q * A m (l m) := by
  obtain ⟨c, hc⟩ := hv
  exact ⟨c m, ech_at e hc hm (ech_coef e hc m (by omega) h0)⟩
theorem rb_ex (l : Nat → Nat) (col : Nat) : ∀ h : Nat, ∃ t, t ≤ h ∧ (∀ i, i < t → l i < col) ∧ (t < h → col ≤ l t)
  | 0 => ⟨0, Nat.le_refl _, fun i hi => absurd hi (by omega), fun q => absurd q (by omega)⟩
  | h + 1 => by
    obtain ⟨t, h1, h2, h3⟩ := rb_ex l col h
    by_cases ht : t < h
    · exact ⟨t, by omega, h2, fun _ => h3 ht⟩
    · obtain rfl : t = h := by omega
      by_cases hl : l t < col
      · refine ⟨t + 1, Nat.le_refl _, fun i hi => ?_, fun q => absurd q (by omega)⟩
        by_cases hq : i = t
        · subst hq; exact hl
        · exact h2 i (by omega)
      · exact ⟨t, by omega, h2, fun _ => by omega⟩
theorem ech_lead {A B : Mat} {h k w : Nat} {l l' : Nat → Nat} (ea : Ech A h w l) (eb : Ech B k w l') (hs : SpEq A h B k w) {i : Nat} (hi : i < h) : ∃ m, m < k ∧ l' m = l i := by
  obtain ⟨t, h1, h2, h3⟩ := rb_ex l' (l i) k
  obtain ⟨hiw, hi0, hiz⟩ := ea.1 i hi
  obtain ⟨c, hc⟩ := (hs (A i)).mp (Span.row hi)
  have hc0 := ech_coef eb hc t h1 (fun m hm => hiz _ (h2 m hm))
  rcases Nat.lt_or_ge t k with ht | ht
  · refine ⟨t, ht, ?_⟩
    rcases Nat.lt_or_eq_of_le (h3 ht) with hq | hq
    · refine absurd ?_ hi0
      rw [hc _ hiw]
      refine Sg_zero (fun m hm => ?_)
      rcases Nat.lt_or_ge m t with h4 | h4
      · rw [hc0 m h4, Int.zero_mul]
      · have h5 : l i < l' m := by
          rcases Nat.lt_or_eq_of_le h4 with h6 | h6
          · exact Nat.lt_trans hq (eb.2 t m h6 hm)
          · rw [← h6]; exact hq
        rw [(eb.1 m hm).2.2 _ h5, Int.mul_zero]
    · exact hq.symm
  · refine absurd ?_ hi0
    rw [hc _ hiw]
    exact Sg_zero (fun m hm => by rw [hc0 m (by omega), Int.zero_mul])
theorem ech_leads {A B : Mat} {h k w : Nat} {l l' : Nat → Nat} (ea : Ech A h w l) (eb : Ech B k w l') (hs : SpEq A h B k w) : ∀ n, n ≤ h → n ≤ k ∧ ∀ i, i < n → l i = l' i
  | 0, _ => ⟨Nat.zero_le _, fun i hi => absurd hi (by omega)⟩
  | n + 1, hn => by
    obtain ⟨h1, h2⟩ := ech_leads ea eb hs n (by omega)
    obtain ⟨m, hm, e1⟩ := ech_lead ea eb hs (i := n) (by omega)
    have h3 : n ≤ m := by
      rcases Nat.lt_or_ge m n with h4 | h4
      · have h5 := ea.2 m n h4 (by omega)
        rw [h2 m h4] at h5
        omega
      · exact h4
    obtain ⟨m2, hm2, e2⟩ := ech_lead eb ea hs.sy (i := n) (by omega)
    have h5 : n ≤ m2 := by
      rcases Nat.lt_or_ge m2 n with h4 | h4
      · have h6 := eb.2 m2 n h4 (by omega)
        rw [← h2 m2 h4] at h6
        omega
      · exact h4
    refine ⟨by omega, fun i hi => ?_⟩
    by_cases hq : i = n
    · subst hq
      have h6 : l i ≤ l m2 := by
        rcases Nat.lt_or_eq_of_le h5 with h7 | h7
        · exact Nat.le_of_lt (ea.2 i m2 h7 hm2)
        · rw [← h7]; exact Nat.le_refl _
      have h8 : l' i ≤ l' m := by
        rcases Nat.lt_or_eq_of_le h3 with h7 | h7
        · exact Nat.le_of_lt (eb.2 i m h7 hm)
        · rw [← h7]; exact Nat.le_refl _
      omega
    · exact h2 i (by omega)
theorem stair_uniq {A B : Mat} {h k w : Nat} {l l' : Nat → Nat} (sa : Stair A h w l) (sb : Stair B k w l') (hs : SpEq A h B k w) : h = k ∧ (∀ i, i < h → l i = l' i) ∧ ∀ i j, i < h → j < w → A i j = B i j := by
  have h1 := ech_leads sa.1 sb.1 hs h (Nat.le_refl _)
  have h2 := ech_leads sb.1 sa.1 hs.sy k (Nat.le_refl _)
  obtain rfl : h = k := by omega
  have hl := h1.2
  -- the leads' numbers
  have hle : ∀ {X Y : Mat} {lx ly : Nat → Nat}, Stair X h w lx → Stair Y h w ly → SpEq X h Y h w → (∀ i, i < h → lx i = ly i) → ∀ i, i < h → Y i (ly i) ≤ X i (lx i) := fun {X Y lx ly} sx sy hs hl i hi => by
    obtain ⟨q, hq⟩ := ech_mul sy.1 ((hs (X i)).mp (Span.row hi)) hi (fun m hm => by rw [← hl m (by omega)]; exact (sx.1.1 i hi).2.2 _ (sx.1.2 m i hm hi))
    have h3 := sx.2.1 i hi
    have h4 := sy.2.1 i hi
    rw [hl i hi] at h3 ⊢
    rw [hq] at h3 ⊢
    have h5 : 0 < q := by
      rcases Int.lt_or_le 0 q with h6 | h6
      · exact h6
      · have := Int.mul_le_mul_of_nonneg_right h6 (show 0 ≤ Y i (ly i) by omega)
        omega
    have h7 : 1 * Y i (ly i) ≤ q * Y i (ly i) := Int.mul_le_mul_of_nonneg_right (by omega) (by omega)
    omega
  have he : ∀ i, i < h → A i (l i) = B i (l i) := fun i hi => by
    have h3 := hle sa sb hs hl i hi
    have h4 := hle sb sa hs.sy (fun i hi => (hl i hi).symm) i hi
    rw [← hl i hi] at h3 h4
    omega
  refine ⟨rfl, hl, fun i j hi hj => ?_⟩
  have hd : Span A h w (fun j => A i j - 1 * B i j) := (Span.row hi).sub (((hs (B i)).mpr (Span.row hi)))
  have h0 : ∀ m, m ≤ h → ∀ n, n < m → A i (l n) - 1 * B i (l n) = 0 := fun m => by
    induction m with
    | zero => intro _ n hn; exact absurd hn (by omega)
    | succ m ih =>
      intro hm n hn
      have ih := ih (by omega)
      by_cases hq : n = m
      · subst hq
        rcases Nat.lt_trichotomy n i with h3 | h3 | h3
        · rw [(sa.1.1 i hi).2.2 _ (sa.1.2 n i h3 hi), hl n (by omega), (sb.1.1 i hi).2.2 _ (sb.1.2 n i h3 hi)]
          rfl
        · rw [h3, he i hi]; omega
        · obtain ⟨q, hq⟩ := ech_mul sa.1 hd (m := n) (by omega) (fun k hk => ih k hk)
          have h4 := sa.2.2 i n h3 (by omega)
          have h5 := sb.2.2 i n h3 (by omega)
          rw [← hl n (by omega), ← he n (by omega)] at h5
          have hq : A i (l n) - 1 * B i (l n) = q * A n (l n) := hq
          have h6 : q = 0 := by
            rcases Int.lt_trichotomy q 0 with h7 | h7 | h7
            · have := Int.mul_le_mul_of_nonneg_right (show q ≤ -1 by omega) (show 0 ≤ A n (l n) by omega)
              omega
            · exact h7
            · have := Int.mul_le_mul_of_nonneg_right (show 1 ≤ q by omega) (show 0 ≤ A n (l n) by omega)
              omega
          rw [hq, h6, Int.zero_mul]
      · exact ih n (by omega)
  have := ech_zero sa.1 hd (fun k hk => h0 h (Nat.le_refl _) k hk) j hj
  have this : A i j - 1 * B i j = 0 := this
  omega

/-! ===== the reference: reduces ===== -/
def er (e b : Nat → Int) : Nat → Int
  | 0 => 1
  | i + 1 => if i = 0 then e 0 else 3 * er e b i * e i * b i
theorem er_ge {e b : Nat → Int} {h : Nat} (he : ∀ i, i < h → 1 ≤ e i ∧ 1 ≤ b i) : ∀ i, i ≤ h → 1 ≤ er e b i ∧ ∀ k, k < i → er e b k ≤ er e b i ∧ e k ≤ er e b i
  | 0, _ => ⟨Int.le_refl _, fun k hk => absurd hk (by omega)⟩
  | i + 1, hi => by
    obtain ⟨h1, h2⟩ := er_ge he i (by omega)
    obtain ⟨h3, h4⟩ := he i (by omega)
    simp only [er]
    by_cases h0 : i = 0
    · subst h0
      rw [if_pos rfl]
      refine ⟨h3, fun k hk => ?_⟩
      obtain rfl : k = 0 := by omega
      exact ⟨h3, Int.le_refl _⟩
    · rw [if_neg h0]
      have a1 : 1 * 1 ≤ e i * b i := Int.mul_le_mul h3 h4 (by omega) (by omega)
      have a2 : e i * 1 ≤ e i * b i := Int.mul_le_mul_of_nonneg_left h4 (by omega)
      have a3 : er e b i * 1 ≤ er e b i * (e i * b i) := Int.mul_le_mul_of_nonneg_left (by omega) (by omega)
      have a4 : 1 * (e i * b i) ≤ er e b i * (e i * b i) := Int.mul_le_mul_of_nonneg_right h1 (by omega)
      have a5 : 3 * er e b i * e i * b i = 3 * (er e b i * (e i * b i)) := by rw [Int.mul_assoc, Int.mul_assoc]
      rw [a5]
      refine ⟨by omega, fun k hk => ?_⟩
      by_cases hk2 : k = i
      · subst hk2; exact ⟨by omega, by omega⟩
      · have := h2 k (by omega); exact ⟨by omega, by omega⟩
def RdP (A0 : Mat) (h w : Nat) (l : Nat → Nat) (β e : Nat → Int) : Prop := (∀ i, i < h → l i < w ∧ 0 < A0 i (l i) ∧ (∀ t, t < l i → A0 i t = 0) ∧ (∀ t, t < w → ab (A0 i t) ≤ e i * β t) ∧ 1 ≤ e i) ∧ (∀ i k, i < k → k < h → l i < l k) ∧ ∀ t, 1 ≤ β t
def RdI (A0 A : Mat) (h w : Nat) (l : Nat → Nat) (β e : Nat → Int) (i k : Nat) : Prop :=
  SpEq A0 h A h w ∧ (∀ m, m < h → A m (l m) = A0 m (l m) ∧ ∀ t, t < l m → A m t = 0) ∧ (∀ m, i ≤ m → m < h → ∀ t, t < w → A m t = A0 m t) ∧
  (∀ m m', m < m' → m' < h → (m' < i ∨ (m' = i ∧ m < k)) → 0 ≤ A m (l m') ∧ A m (l m') < A0 m' (l m')) ∧
  ∀ m, m < i → m < h → ∀ t, t < w → ab (A m t) ≤ (if m < k then er e (fun n => β (l n)) (i + 1) else er e (fun n => β (l n)) i) * β t
section RdS
variable {A0 A A' : Mat} {h w : Nat} {l : Nat → Nat} {β e : Nat → Int} {i k : Nat}
theorem RdP.er1 (p : RdP A0 h w l β e) {i : Nat} (hi : i ≤ h) : 1 ≤ er e (fun n => β (l n)) i ∧ ∀ k, k < i → er e (fun n => β (l n)) k ≤ er e (fun n => β (l n)) i ∧ e k ≤ er e (fun n => β (l n)) i := er_ge (fun i hi => ⟨(p.1 i hi).2.2.2.2, p.2.2 _⟩) i hi
theorem RdI.zero (p : RdP A0 h w l β e) : RdI A0 A0 h w l β e 1 0 := ⟨SpEq.rf, fun m hm => ⟨rfl, (p.1 m hm).2.2.1⟩, fun _ _ _ _ _ => rfl, fun m m' h1 h2 h3 => absurd h3 (by omega), fun m h1 h2 t ht => by
  obtain rfl : m = 0 := by omega
  rw [if_neg (by omega)]
  exact (p.1 0 h2).2.2.2.1 t ht⟩
theorem RdI.out (p : RdP A0 h w l β e) (q : RdI A0 A h w l β e i i) (hi : i < h) : RdI A0 A h w l β e (i + 1) 0 := by
  obtain ⟨q1, q2, q3, q4, q5⟩ := q
  refine ⟨q1, q2, fun m h1 h2 => q3 m (by omega) h2, fun m m' h1 h2 h3 => q4 m m' h1 h2 (by omega), fun m h1 h2 t ht => ?_⟩
  rw [if_neg (by omega)]
  by_cases e1 : m = i
  · subst e1
    rw [q3 m (Nat.le_refl _) hi t ht]
    have a1 := (p.1 m hi).2.2.2.1 t ht
    have a2 : e m * β t ≤ er e (fun n => β (l n)) (m + 1) * β t := Int.mul_le_mul_of_nonneg_right ((p.er1 (i := m + 1) (by omega)).2 m (by omega)).2 (by have := p.2.2 t; omega)
    omega
  · have a1 := q5 m (by omega) h2 t ht
    rw [if_pos (by omega)] at a1
    exact a1
theorem RdI.stair (p : RdP A0 h w l β e) (q : RdI A0 A h w l β e i 0) (hi : h ≤ i) : Stair A h w l := by
  obtain ⟨q1, q2, q3, q4, q5⟩ := q
  refine ⟨⟨fun m hm => ⟨(p.1 m hm).1, ?_, (q2 m hm).2⟩, p.2.1⟩, fun m hm => by rw [(q2 m hm).1]; exact (p.1 m hm).2.1, fun m m' h1 h2 => ?_⟩
  · have := (p.1 m hm).2.1
    rw [(q2 m hm).1]; omega
  · rw [(q2 m' h2).1]
    exact q4 m m' h1 h2 (by omega)
/-- what one step may come to -/
theorem RdI.bd (p : RdP A0 h w l β e) (q : RdI A0 A h w l β e i k) (hk : k < i) (hi : i < h) {t : Nat} (ht : t < w) : ab (A k (l i) / A i (l i) * A i t) ≤ er e (fun n => β (l n)) (i + 1) * β t ∧ ab (A k t - A k (l i) / A i (l i) * A i t) ≤ er e (fun n => β (l n)) (i + 1) * β t := by
  obtain ⟨q1, q2, q3, q4, q5⟩ := q
  obtain ⟨p1, p2, p3, p4, p5⟩ := p.1 i hi
  have a1 := q5 k hk (by omega) t ht
  have a2 := q5 k hk (by omega) (l i) p1
  rw [if_neg (by omega)] at a1 a2
  have a3 := p4 t ht
  rw [← q3 i (Nat.le_refl _) hi t ht] at a3
  have hpi : 0 < A i (l i) := by rw [(q2 i hi).1]; exact p2
  have a4 : ab (A k (l i) / A i (l i)) ≤ ab (A k (l i)) := by
    have := fl_abs (a := A k (l i)) hpi
    unfold ab; omega
  have b1 := p.2.2 (l i)
  have b2 := p.2.2 t
  have b3 := (p.er1 (i := i) (by omega)).1
  have hE : er e (fun n => β (l n)) (i + 1) = 3 * er e (fun n => β (l n)) i * e i * β (l i) := by
    simp only [er]
    rw [if_neg (by omega)]
  rw [hE]
  generalize er e (fun n => β (l n)) i = E at *
  have c1 : ab (A k (l i) / A i (l i)) * ab (A i t) ≤ E * β (l i) * (e i * β t) := Int.mul_le_mul (Int.le_trans a4 a2) a3 (ab0 _) (Int.mul_nonneg (by omega) (by omega))
  have c2 : E * β (l i) * (e i * β t) = E * e i * β (l i) * β t := by
    rw [Int.mul_assoc E, ← Int.mul_assoc (β (l i)), Int.mul_comm (β (l i)) (e i), ← Int.mul_assoc E, ← Int.mul_assoc E]
  have c3 : 3 * E * e i * β (l i) * β t = 3 * (E * e i * β (l i) * β t) := by
    rw [Int.mul_assoc 3, Int.mul_assoc 3, Int.mul_assoc 3]
  have c4 : E * 1 ≤ E * (e i * β (l i)) := Int.mul_le_mul_of_nonneg_left (by have : 1 * 1 ≤ e i * β (l i) := Int.mul_le_mul p5 b1 (by omega) (by omega); omega) (by omega)
  have c5 : E * β t ≤ E * e i * β (l i) * β t := Int.mul_le_mul_of_nonneg_right (by rw [Int.mul_assoc]; omega) (by omega)
  have c6 := ab_sub (A k t) (A k (l i) / A i (l i) * A i t)
  have c7 := ab0 (A k t)
  rw [ab_mul] at c6 ⊢
  rw [c3]
  exact ⟨by omega, by omega⟩
theorem RdI.step (p : RdP A0 h w l β e) (q : RdI A0 A h w l β e i k) (hk : k < i) (hi : i < h) (h1 : ∀ m, m < h → m ≠ k → ∀ t, t < w → A' m t = A m t) (h2 : ∀ t, t < w → A' k t = A k t - A k (l i) / A i (l i) * A i t) : RdI A0 A' h w l β e i (k + 1) := by
  have hb := fun t ht => (q.bd p hk hi (t := t) ht).2
  obtain ⟨q1, q2, q3, q4, q5⟩ := q
  have hlt : ∀ m, m < h → l m < w := fun m hm => (p.1 m hm).1
  have hz : ∀ t, t < l i → A i t = 0 := (q2 i hi).2
  have hA' : ∀ t, t < l i → A' k t = A k t := fun t ht => by rw [h2 t (by have := hlt i hi; omega), hz t ht]; omega
  have hki := p.2.1 k i hk hi
  refine ⟨q1.tr (SpEq.op (i := k) (k := i) (by omega) hi (by omega) h1 h2), fun m hm => ?_, fun m m1 m2 t ht => ?_, fun m m' m1 m2 m3 => ?_, fun m m1 m2 t ht => ?_⟩
  · by_cases e1 : m = k
    · subst e1
      exact ⟨by rw [hA' _ hki]; exact (q2 m hm).1, fun t ht => by rw [hA' t (by omega)]; exact (q2 m hm).2 t ht⟩
    · exact ⟨by rw [h1 m hm e1 _ (hlt m hm)]; exact (q2 m hm).1, fun t ht => by rw [h1 m hm e1 _ (by have := hlt m hm; omega)]; exact (q2 m hm).2 t ht⟩
  · rw [h1 m m2 (by omega) t ht]; exact q3 m m1 m2 t ht
  · by_cases e1 : m = k
    · subst e1
      by_cases e2 : m' = i
      · subst e2
        have hp := (p.1 m' hi).2.1
        rw [h2 _ (hlt m' hi), (q2 m' hi).1]
        have a1 := Int.emod_add_mul_ediv (A m (l m')) (A0 m' (l m'))
        have a2 := Int.emod_nonneg (A m (l m')) (show A0 m' (l m') ≠ 0 by omega)
        have a3 := Int.emod_lt_of_pos (A m (l m')) hp
        rw [Int.mul_comm (A0 m' (l m'))] at a1
        exact ⟨by omega, by omega⟩
      · rw [hA' _ (p.2.1 m' i (by omega) hi)]
        exact q4 m m' m1 m2 (Or.inl (by omega))
    · rw [h1 m (by omega) e1 _ (hlt m' m2)]
      exact q4 m m' m1 m2 (by omega)
  · by_cases e1 : m = k
    · subst e1
      rw [if_pos (by omega), h2 t ht]; exact hb t ht
    · rw [h1 m m2 e1 t ht]
      have := q5 m m1 m2 t ht
      by_cases e2 : m < k
      · rw [if_pos e2] at this; rw [if_pos (by omega)]; exact this
      · rw [if_neg e2] at this; rw [if_neg (by omega)]; exact this
end RdS
def InR (b w h : Nat) : Nat → Prop := fun q => (b ≤ q ∧ q < b + w * h) ∨ (415 ≤ q ∧ q ≤ 418)
def RdQ (g : GX) (mo : Nat) (zs : Nat → Int) (b w h : Nat) (l : Nat → Nat) (β e : Nat → Int) : Option Value → AH → Prop := fun r V' => none = r ∧ ∃ z', MN g mo V' z' ∧ Frm zs z' (InR b w h) ∧ Stair (BMx b w z') h w l ∧ SpEq (BMx b w zs) h (BMx b w z') h w ∧ ∀ m, m < h → ∀ t, t < w → ab (BMx b w z' m t) ≤ er e (fun n => β (l n)) h * β t
abbrev mX6_reduces : MI := (yX6_reduces, cX6_reduces, 8, none, noX)
theorem dX6_reduces_0 : decode cX6_reduces 0 = .ok (.iconst 1, 1) := by decide +kernel
theorem dX6_reduces_1 : decode cX6_reduces 1 = .ok (.istore 6, 2) := by decide +kernel
theorem dX6_reduces_3 : decode cX6_reduces 3 = .ok (.iload 6, 2) := by decide +kernel
theorem dX6_reduces_5 : decode cX6_reduces 5 = .ok (.iload 5, 2) := by decide +kernel
theorem dX6_reduces_7 : decode cX6_reduces 7 = .ok (.if_icmp .ge 77, 3) := by decide +kernel
theorem dX6_reduces_10 : decode cX6_reduces 10 = .ok (.iconst 0, 1) := by decide +kernel
theorem dX6_reduces_11 : decode cX6_reduces 11 = .ok (.istore 7, 2) := by decide +kernel
theorem dX6_reduces_13 : decode cX6_reduces 13 = .ok (.iload 7, 2) := by decide +kernel
theorem dX6_reduces_15 : decode cX6_reduces 15 = .ok (.iload 6, 2) := by decide +kernel
theorem dX6_reduces_17 : decode cX6_reduces 17 = .ok (.if_icmp .ge 61, 3) := by decide +kernel
theorem dX6_reduces_20 : decode cX6_reduces 20 = .ok (.aload_n 0, 1) := by decide +kernel
theorem dX6_reduces_21 : decode cX6_reduces 21 = .ok (.iload_n 1, 1) := by decide +kernel
theorem dX6_reduces_22 : decode cX6_reduces 22 = .ok (.iload_n 2, 1) := by decide +kernel
theorem dX6_reduces_23 : decode cX6_reduces 23 = .ok (.iload 7, 2) := by decide +kernel
theorem dX6_reduces_25 : decode cX6_reduces 25 = .ok (.imul, 1) := by decide +kernel
theorem dX6_reduces_26 : decode cX6_reduces 26 = .ok (.iadd, 1) := by decide +kernel
theorem dX6_reduces_27 : decode cX6_reduces 27 = .ok (.aload 4, 2) := by decide +kernel
theorem dX6_reduces_29 : decode cX6_reduces 29 = .ok (.iload 6, 2) := by decide +kernel
theorem dX6_reduces_31 : decode cX6_reduces 31 = .ok (.iaload, 1) := by decide +kernel
theorem dX6_reduces_32 : decode cX6_reduces 32 = .ok (.iadd, 1) := by decide +kernel
theorem dX6_reduces_33 : decode cX6_reduces 33 = .ok (.iload_n 1, 1) := by decide +kernel
theorem dX6_reduces_34 : decode cX6_reduces 34 = .ok (.iload_n 2, 1) := by decide +kernel
theorem dX6_reduces_35 : decode cX6_reduces 35 = .ok (.iload 6, 2) := by decide +kernel
theorem dX6_reduces_37 : decode cX6_reduces 37 = .ok (.imul, 1) := by decide +kernel
theorem dX6_reduces_38 : decode cX6_reduces 38 = .ok (.iadd, 1) := by decide +kernel
theorem dX6_reduces_39 : decode cX6_reduces 39 = .ok (.aload 4, 2) := by decide +kernel
theorem dX6_reduces_41 : decode cX6_reduces 41 = .ok (.iload 6, 2) := by decide +kernel
theorem dX6_reduces_43 : decode cX6_reduces 43 = .ok (.iaload, 1) := by decide +kernel
theorem dX6_reduces_44 : decode cX6_reduces 44 = .ok (.iadd, 1) := by decide +kernel
theorem dX6_reduces_45 : decode cX6_reduces 45 = .ok (.sipush 416, 3) := by decide +kernel
theorem dX6_reduces_48 : decode cX6_reduces 48 = .ok (.invokevirtual 113, 3) := by decide +kernel
theorem dX6_reduces_51 : decode cX6_reduces 51 = .ok (.pop, 1) := by decide +kernel
theorem dX6_reduces_52 : decode cX6_reduces 52 = .ok (.aload_n 0, 1) := by decide +kernel
theorem dX6_reduces_53 : decode cX6_reduces 53 = .ok (.iload_n 1, 1) := by decide +kernel
theorem dX6_reduces_54 : decode cX6_reduces 54 = .ok (.iload_n 2, 1) := by decide +kernel
theorem dX6_reduces_55 : decode cX6_reduces 55 = .ok (.iload 7, 2) := by decide +kernel
theorem dX6_reduces_57 : decode cX6_reduces 57 = .ok (.imul, 1) := by decide +kernel
theorem dX6_reduces_58 : decode cX6_reduces 58 = .ok (.iadd, 1) := by decide +kernel
theorem dX6_reduces_59 : decode cX6_reduces 59 = .ok (.iload_n 1, 1) := by decide +kernel
theorem dX6_reduces_60 : decode cX6_reduces 60 = .ok (.iload_n 2, 1) := by decide +kernel
theorem dX6_reduces_61 : decode cX6_reduces 61 = .ok (.iload 6, 2) := by decide +kernel
theorem dX6_reduces_63 : decode cX6_reduces 63 = .ok (.imul, 1) := by decide +kernel
theorem dX6_reduces_64 : decode cX6_reduces 64 = .ok (.iadd, 1) := by decide +kernel
theorem dX6_reduces_65 : decode cX6_reduces 65 = .ok (.iload_n 3, 1) := by decide +kernel
theorem dX6_reduces_66 : decode cX6_reduces 66 = .ok (.sipush 416, 3) := by decide +kernel
theorem dX6_reduces_69 : decode cX6_reduces 69 = .ok (.invokevirtual 100, 3) := by decide +kernel
theorem dX6_reduces_72 : decode cX6_reduces 72 = .ok (.iinc 7 1, 3) := by decide +kernel
theorem dX6_reduces_75 : decode cX6_reduces 75 = .ok (.goto (-62), 3) := by decide +kernel
theorem dX6_reduces_78 : decode cX6_reduces 78 = .ok (.iinc 6 1, 3) := by decide +kernel
theorem dX6_reduces_81 : decode cX6_reduces 81 = .ok (.goto (-78), 3) := by decide +kernel
theorem dX6_reduces_84 : decode cX6_reduces 84 = .ok (.return_, 1) := by decide +kernel
theorem rd_S (d : Nat) {g : GX} {V0 : AH} {mo sz h i : Nat} {rk kn ar ac : Int} {zs RW β e : Nat → Int} {l : Nat → Nat} {Q : AQ} (hra0 : V0 (mo + 6) = some (aIz g 11 RW)) (hh : h ≤ 10) (hl : ∀ i, i < h → RW i = (l i : Int)) (hp : RdP (BMx 0 15 zs) h 15 l β e) (hSm : ∀ t, t < 15 → SmM (er e (fun n => β (l n)) h * β t)) (hi1 : 1 ≤ i) (hi : i < h)
    (hKK : ∀ {V : AH} {z' : Nat → Int}, V mo = some (moO mo rk kn ar ac) → MN g mo V z' → Frm zs z' (InR 0 15 h) → (∀ a, ¬ EN mo a → V a = V0 a) → RdI (BMx 0 15 zs) (BMx 0 15 z') h 15 l β e i i → AW g mX6_reduces (d + 3) 78 [(6, .int (iZ i)), (0, .ref mo), (1, .int (iZ 0)), (2, .int (iZ 15)), (3, .int (iZ 15)), (4, .ref (mo + 6)), (5, .int (iZ h))] [] V sz Q) : ∀ (y k : Nat), k + y = i → ∀ {V : AH} {z' : Nat → Int}, V mo = some (moO mo rk kn ar ac) → MN g mo V z' → Frm zs z' (InR 0 15 h) → (∀ a, ¬ EN mo a → V a = V0 a) → RdI (BMx 0 15 zs) (BMx 0 15 z') h 15 l β e i k → AW g mX6_reduces (d + 3) 13 [(7, .int (iZ k)), (6, .int (iZ i)), (0, .ref mo), (1, .int (iZ 0)), (2, .int (iZ 15)), (3, .int (iZ 15)), (4, .ref (mo + 6)), (5, .int (iZ h))] [] V sz Q
  | 0, k, hy, V, z', hmo, hM, hF, hV, q => by
    refine aw_iload dX6_reduces_13 (by rfl) ?_
    refine aw_iload dX6_reduces_15 (by rfl) ?_
    refine aw_icmp_geZ (tgt := 78) dX6_reduces_17 (by decide) (by omega) (by omega) (fun hc_17 => ?_) (fun hc_17 => ?_)
    · obtain rfl : k = i := by omega
      refine aw_pk [6, 0, 1, 2, 3, 4, 5] (by rfl) ?_
      exact hKK hmo hM hF hV q
    · exact absurd hc_17 (by omega)
  | y + 1, k, hy, V, z', hmo, hM, hF, hV, q => by
    have IH := fun k hk => @rd_S d g V0 mo sz h i rk kn ar ac zs RW β e l Q hra0 hh hl hp hSm hi1 hi hKK y k hk
    have hki : k < i := by omega
    have hra : V (mo + 6) = some (aIz g 11 RW) := (hV _ (by unfold EN; omega)).trans hra0
    have hlw := (hp.1 i hi).1
    have hpi : 0 < z' (0 + 15 * i + l i) := by
      have h8 := (q.2.1 i hi).1
      have h9 := (hp.1 i hi).2.1
      rw [← h8] at h9
      exact h9
    have hSm' : ∀ t, t < 15 → SmM (er e (fun n => β (l n)) (i + 1) * β t) := fun t ht => smT (hSm t ht) (by
      have h1 := (hp.er1 (i := i + 1) (by omega)).1
      have h2 : er e (fun n => β (l n)) (i + 1) ≤ er e (fun n => β (l n)) h := by
        rcases Nat.lt_or_ge (i + 1) h with c | c
        · exact ((hp.er1 (Nat.le_refl h)).2 (i + 1) c).1
        · rw [show i + 1 = h by omega]; exact Int.le_refl _
      have h3 := hp.2.2 t
      rw [ab_pos (Int.mul_nonneg (by omega) (by omega))]
      exact Int.mul_le_mul_of_nonneg_right h2 (by omega))
    clear hKK
    refine aw_iload dX6_reduces_13 (by rfl) ?_
    refine aw_iload dX6_reduces_15 (by rfl) ?_
    refine aw_icmp_geZ (tgt := 78) dX6_reduces_17 (by decide) (by omega) (by omega) (fun hc_17 => ?_) (fun hc_17 => ?_)
    · exact absurd hc_17 (by omega)
    · refine aw_aload_n dX6_reduces_20 (by rfl) (Or.inr ⟨_, rfl⟩) ?_
      refine aw_iload_n dX6_reduces_21 (by rfl) ?_
      refine aw_iload_n dX6_reduces_22 (by rfl) ?_
      refine aw_iload dX6_reduces_23 (by rfl) ?_
      refine aw_imulZ dX6_reduces_25 ?_
      refine aw_iaddZ dX6_reduces_26 ?_
      refine aw_aload dX6_reduces_27 (by rfl) (Or.inr ⟨_, rfl⟩) ?_
      refine aw_iload dX6_reduces_29 (by rfl) ?_
      refine aw_ialdZ (i) dX6_reduces_31 hra (by omega) (by omega) (by omega) ?_
      rw [hl i (by omega)]
      refine aw_iaddZ dX6_reduces_32 ?_
      refine aw_topi (y := ((0 + 15 * k + l i : Nat) : Int)) (by omega) ?_
      refine aw_iload_n dX6_reduces_33 (by rfl) ?_
      refine aw_iload_n dX6_reduces_34 (by rfl) ?_
      refine aw_iload dX6_reduces_35 (by rfl) ?_
      refine aw_imulZ dX6_reduces_37 ?_
      refine aw_iaddZ dX6_reduces_38 ?_
      refine aw_aload dX6_reduces_39 (by rfl) (Or.inr ⟨_, rfl⟩) ?_
      refine aw_iload dX6_reduces_41 (by rfl) ?_
      refine aw_ialdZ (i) dX6_reduces_43 hra (by omega) (by omega) (by omega) ?_
      rw [hl i (by omega)]
      refine aw_iaddZ dX6_reduces_44 ?_
      refine aw_topi (y := ((0 + 15 * i + l i : Nat) : Int)) (by omega) ?_
      refine aw_sipushZ dX6_reduces_45 (by decide) ?_
      refine aw_topi (y := ((416 : Nat) : Int)) (by omega) ?_
      refine aw_callv vX6_113 dX6_reduces_48 hmo (m_floors g d (a := 0 + 15 * k + l i) (e := 0 + 15 * i + l i) (c := 416) ⟨rk, kn, ar, ac, hmo⟩ hM (by omega) (by omega) (by omega) (by omega) (by omega) (by omega) hpi) (by rfl) (by rfl) (by omega) (Nat.le_of_ble_eq_true rfl) ?_
      rintro _ V1 _ _ _ ⟨rfl, rfl, rfl, hE1, rfl, z1, hM1, hz1⟩ -
      refine q0 ?_
      have hmo1 := (hE1 mo (by unfold EN; omega)).trans hmo
      refine aw_pop dX6_reduces_51 rfl ?_
      refine aw_aload_n dX6_reduces_52 (by rfl) (Or.inr ⟨_, rfl⟩) ?_
      refine aw_iload_n dX6_reduces_53 (by rfl) ?_
      refine aw_iload_n dX6_reduces_54 (by rfl) ?_
      refine aw_iload dX6_reduces_55 (by rfl) ?_
      refine aw_imulZ dX6_reduces_57 ?_
      refine aw_iaddZ dX6_reduces_58 ?_
      refine aw_topi (y := ((0 + 15 * k : Nat) : Int)) (by omega) ?_
      refine aw_iload_n dX6_reduces_59 (by rfl) ?_
      refine aw_iload_n dX6_reduces_60 (by rfl) ?_
      refine aw_iload dX6_reduces_61 (by rfl) ?_
      refine aw_imulZ dX6_reduces_63 ?_
      refine aw_iaddZ dX6_reduces_64 ?_
      refine aw_topi (y := ((0 + 15 * i : Nat) : Int)) (by omega) ?_
      refine aw_iload_n dX6_reduces_65 (by rfl) ?_
      refine aw_sipushZ dX6_reduces_66 (by decide) ?_
      refine aw_topi (y := ((416 : Nat) : Int)) (by omega) ?_
      refine aw_callv vX6_100 dX6_reduces_69 hmo1 (m_takesRow g d (a := 0 + 15 * k) (e := 0 + 15 * i) (n := 15) (f := 416) ⟨rk, kn, ar, ac, hmo1⟩ hM1 (by omega) (by omega) (by omega) (by omega) (fun t ht => by rw [hz1 _ (by omega), upF_self, hz1 _ (by omega), upF_ne _ _ (by omega)]; exact smT (hSm' t ht) (q.bd hp hki hi ht).1) (fun t ht => by rw [hz1 _ (by omega), upF_ne _ _ (by omega), hz1 416 (by omega), upF_self, hz1 _ (by omega), upF_ne _ _ (by omega)]; exact smT (hSm' t ht) (q.bd hp hki hi ht).2)) (by rfl) (by rfl) (by omega) (Nat.le_of_ble_eq_true rfl) ?_
      rintro _ V2 _ _ _ ⟨rfl, rfl, rfl, hE2, rfl, z2, hM2, hTk⟩ -
      refine q0 ?_
      have hmo2 := (hE2 mo (by unfold EN; omega)).trans hmo1
      refine aw_iincZ dX6_reduces_72 (by rfl) (by decide) ?_
      refine aw_goto (tgt := 13) dX6_reduces_75 (by decide) ?_
      rw [show ((k : Int) + 1) = ((k + 1 : Nat) : Int) by omega]
      refine aw_pk [7, 6, 0, 1, 2, 3, 4, 5] (by rfl) ?_
      refine IH (k + 1) (by omega) hmo2 hM2 (fun x hx => ?_) (fun a ha => (hE2 a ha).trans ((hE1 a ha).trans (hV a ha))) (q.step hp hki hi (fun m' hm hne t ht => ?_) (fun t ht => ?_))
      · unfold InR at hx
        rw [hTk x (by omega), if_neg (by omega), hz1 x (by omega), upF_ne _ _ (by omega)]
        exact hF x (by unfold InR; omega)
      · show z2 (0 + 15 * m' + t) = z' (0 + 15 * m' + t)
        rw [hTk _ (by omega), if_neg (by omega), hz1 _ (by omega), upF_ne _ _ (by omega)]
      · show z2 (0 + 15 * k + t) = _
        rw [hTk _ (by omega), if_pos (by omega), hz1 _ (by omega), upF_ne _ _ (by omega), hz1 416 (by omega), upF_self, hz1 _ (by omega), upF_ne _ _ (by omega), show 0 + 15 * i + (0 + 15 * k + t - (0 + 15 * k)) = 0 + 15 * i + t by omega]
        rfl
theorem ro_S (d : Nat) {g : GX} {V0 : AH} {mo sz h : Nat} {rk kn ar ac : Int} {zs RW β e : Nat → Int} {l : Nat → Nat} (hra : V0 (mo + 6) = some (aIz g 11 RW)) (hh : h ≤ 10) (hl : ∀ i, i < h → RW i = (l i : Int)) (hp : RdP (BMx 0 15 zs) h 15 l β e) (hSm : ∀ t, t < 15 → SmM (er e (fun n => β (l n)) h * β t)) : ∀ (y i : Nat), 1 ≤ i → (i + y = h ∨ (h = 0 ∧ y = 0 ∧ i = 1)) → ∀ {V : AH} {z' : Nat → Int}, V mo = some (moO mo rk kn ar ac) → MN g mo V z' → Frm zs z' (InR 0 15 h) → (∀ a, ¬ EN mo a → V a = V0 a) → RdI (BMx 0 15 zs) (BMx 0 15 z') h 15 l β e i 0 → AW g mX6_reduces (d + 3) 3 [(6, .int (iZ i)), (0, .ref mo), (1, .int (iZ 0)), (2, .int (iZ 15)), (3, .int (iZ 15)), (4, .ref (mo + 6)), (5, .int (iZ h))] [] V sz (VX V0 sz (EN mo) (RdQ g mo zs 0 15 h l β e))
  | 0, i, hi1, hy, V, z', hmo, hM, hF, hV, q => by
    refine aw_iload dX6_reduces_3 (by rfl) ?_
    refine aw_iload dX6_reduces_5 (by rfl) ?_
    refine aw_icmp_geZ (tgt := 84) dX6_reduces_7 (by decide) (by omega) (by omega) (fun hc_7 => ?_) (fun hc_7 => ?_)
    · refine aw_ret dX6_reduces_84 rfl ?_
      refine ⟨rfl, rfl, rfl, hV, rfl, z', hM, hF, q.stair hp (by omega), q.1, fun m hm t ht => ?_⟩
      have h8 := q.2.2.2.2 m (by omega) hm t ht
      rw [if_neg (by omega)] at h8
      by_cases c : i = h
      · rw [c] at h8; exact h8
      · obtain rfl : h = 0 := by omega
        omega
    · exact absurd hc_7 (by omega)
  | y + 1, i, hi1, hy, V, z', hmo, hM, hF, hV, q => by
    have IH := fun i h1 h2 => @ro_S d g V0 mo sz h rk kn ar ac zs RW β e l hra hh hl hp hSm y i h1 h2
    refine aw_iload dX6_reduces_3 (by rfl) ?_
    refine aw_iload dX6_reduces_5 (by rfl) ?_
    refine aw_icmp_geZ (tgt := 84) dX6_reduces_7 (by decide) (by omega) (by omega) (fun hc_7 => ?_) (fun hc_7 => ?_)
    · exact absurd hc_7 (by omega)
    · refine aw_iconstZ dX6_reduces_10 ?_
      refine aw_istore dX6_reduces_11 (by decide) ?_
      refine aw_pk [7, 6, 0, 1, 2, 3, 4, 5] (by rfl) ?_
      refine rd_S d (V0 := V0) (zs := zs) (l := l) (β := β) (e := e) (RW := RW) hra hh hl hp hSm (by omega) (by omega) (fun {V2 z2} hmo2 hM2 hF2 hV2 q2 => ?_) i 0 (by omega) hmo hM hF hV q
      refine aw_iincZ dX6_reduces_78 (by rfl) (by decide) ?_
      refine aw_goto (tgt := 3) dX6_reduces_81 (by decide) ?_
      rw [show ((i : Int) + 1) = ((i + 1 : Nat) : Int) by omega]
      refine aw_pk [6, 0, 1, 2, 3, 4, 5] (by rfl) ?_
      exact IH (i + 1) (by omega) (by omega) hmo2 hM2 hF2 hV2 (q2.out hp (by omega))
theorem m_redS (g : GX) (d : Nat) {V : AH} {mo sz h : Nat} {zs RW β e : Nat → Int} {l : Nat → Nat} (hm : moV mo V) (hM : MN g mo V zs) (hra : V (mo + 6) = some (aIz g 11 RW)) (hh : h ≤ 10) (hl : ∀ i, i < h → RW i = (l i : Int)) (hp : RdP (BMx 0 15 zs) h 15 l β e) (hSm : ∀ t, t < 15 → SmM (er e (fun n => β (l n)) h * β t)) : AMet g mX6_reduces (d + 3) [.ref mo, .int (iZ 0), .int (iZ 15), .int (iZ 15), .ref (mo + 6), .int (iZ h)] V sz (VX V sz (EN mo) (RdQ g mo zs 0 15 h l β e)) := by
  obtain ⟨rk, kn, ar, ac, hmo⟩ := hm
  refine AMet.of rfl rfl (Nat.le_of_ble_eq_true rfl) ?_
  show AW g mX6_reduces (d + 3) 0 [(0, .ref mo), (1, .int (iZ 0)), (2, .int (iZ 15)), (3, .int (iZ 15)), (4, .ref (mo + 6)), (5, .int (iZ h))] [] V sz _
  refine aw_iconstZ dX6_reduces_0 ?_
  refine aw_istore dX6_reduces_1 (by decide) ?_
  refine aw_pk [6, 0, 1, 2, 3, 4, 5] (by rfl) ?_
  exact ro_S d hra hh hl hp hSm (h - 1) 1 (by omega) (by omega) hmo hM (fun _ _ => rfl) (fun _ _ => rfl) (RdI.zero hp)
theorem rd_K (d : Nat) {g : GX} {V0 : AH} {mo sz h i : Nat} {rk kn ar ac : Int} {zs RW β e : Nat → Int} {l : Nat → Nat} {Q : AQ} (hra0 : V0 (mo + 7) = some (aIz g 11 RW)) (hh : h ≤ 10) (hl : ∀ i, i < h → RW i = (l i : Int)) (hp : RdP (BMx 165 10 zs) h 10 l β e) (hSm : ∀ t, t < 10 → SmM (er e (fun n => β (l n)) h * β t)) (hi1 : 1 ≤ i) (hi : i < h)
    (hKK : ∀ {V : AH} {z' : Nat → Int}, V mo = some (moO mo rk kn ar ac) → MN g mo V z' → Frm zs z' (InR 165 10 h) → (∀ a, ¬ EN mo a → V a = V0 a) → RdI (BMx 165 10 zs) (BMx 165 10 z') h 10 l β e i i → AW g mX6_reduces (d + 3) 78 [(6, .int (iZ i)), (0, .ref mo), (1, .int (iZ 165)), (2, .int (iZ 10)), (3, .int (iZ 10)), (4, .ref (mo + 7)), (5, .int (iZ h))] [] V sz Q) : ∀ (y k : Nat), k + y = i → ∀ {V : AH} {z' : Nat → Int}, V mo = some (moO mo rk kn ar ac) → MN g mo V z' → Frm zs z' (InR 165 10 h) → (∀ a, ¬ EN mo a → V a = V0 a) → RdI (BMx 165 10 zs) (BMx 165 10 z') h 10 l β e i k → AW g mX6_reduces (d + 3) 13 [(7, .int (iZ k)), (6, .int (iZ i)), (0, .ref mo), (1, .int (iZ 165)), (2, .int (iZ 10)), (3, .int (iZ 10)), (4, .ref (mo + 7)), (5, .int (iZ h))] [] V sz Q
  | 0, k, hy, V, z', hmo, hM, hF, hV, q => by
    refine aw_iload dX6_reduces_13 (by rfl) ?_
    refine aw_iload dX6_reduces_15 (by rfl) ?_
    refine aw_icmp_geZ (tgt := 78) dX6_reduces_17 (by decide) (by omega) (by omega) (fun hc_17 => ?_) (fun hc_17 => ?_)
    · obtain rfl : k = i := by omega
      refine aw_pk [6, 0, 1, 2, 3, 4, 5] (by rfl) ?_
      exact hKK hmo hM hF hV q
    · exact absurd hc_17 (by omega)
  | y + 1, k, hy, V, z', hmo, hM, hF, hV, q => by
    have IH := fun k hk => @rd_K d g V0 mo sz h i rk kn ar ac zs RW β e l Q hra0 hh hl hp hSm hi1 hi hKK y k hk
    have hki : k < i := by omega
    have hra : V (mo + 7) = some (aIz g 11 RW) := (hV _ (by unfold EN; omega)).trans hra0
    have hlw := (hp.1 i hi).1
    have hpi : 0 < z' (165 + 10 * i + l i) := by
      have h8 := (q.2.1 i hi).1
      have h9 := (hp.1 i hi).2.1
      rw [← h8] at h9
      exact h9
    have hSm' : ∀ t, t < 10 → SmM (er e (fun n => β (l n)) (i + 1) * β t) := fun t ht => smT (hSm t ht) (by
      have h1 := (hp.er1 (i := i + 1) (by omega)).1
      have h2 : er e (fun n => β (l n)) (i + 1) ≤ er e (fun n => β (l n)) h := by
        rcases Nat.lt_or_ge (i + 1) h with c | c
        · exact ((hp.er1 (Nat.le_refl h)).2 (i + 1) c).1
        · rw [show i + 1 = h by omega]; exact Int.le_refl _
      have h3 := hp.2.2 t
      rw [ab_pos (Int.mul_nonneg (by omega) (by omega))]
      exact Int.mul_le_mul_of_nonneg_right h2 (by omega))
    clear hKK
    refine aw_iload dX6_reduces_13 (by rfl) ?_
    refine aw_iload dX6_reduces_15 (by rfl) ?_
    refine aw_icmp_geZ (tgt := 78) dX6_reduces_17 (by decide) (by omega) (by omega) (fun hc_17 => ?_) (fun hc_17 => ?_)
    · exact absurd hc_17 (by omega)
    · refine aw_aload_n dX6_reduces_20 (by rfl) (Or.inr ⟨_, rfl⟩) ?_
      refine aw_iload_n dX6_reduces_21 (by rfl) ?_
      refine aw_iload_n dX6_reduces_22 (by rfl) ?_
      refine aw_iload dX6_reduces_23 (by rfl) ?_
      refine aw_imulZ dX6_reduces_25 ?_
      refine aw_iaddZ dX6_reduces_26 ?_
      refine aw_aload dX6_reduces_27 (by rfl) (Or.inr ⟨_, rfl⟩) ?_
      refine aw_iload dX6_reduces_29 (by rfl) ?_
      refine aw_ialdZ (i) dX6_reduces_31 hra (by omega) (by omega) (by omega) ?_
      rw [hl i (by omega)]
      refine aw_iaddZ dX6_reduces_32 ?_
      refine aw_topi (y := ((165 + 10 * k + l i : Nat) : Int)) (by omega) ?_
      refine aw_iload_n dX6_reduces_33 (by rfl) ?_
      refine aw_iload_n dX6_reduces_34 (by rfl) ?_
      refine aw_iload dX6_reduces_35 (by rfl) ?_
      refine aw_imulZ dX6_reduces_37 ?_
      refine aw_iaddZ dX6_reduces_38 ?_
      refine aw_aload dX6_reduces_39 (by rfl) (Or.inr ⟨_, rfl⟩) ?_
      refine aw_iload dX6_reduces_41 (by rfl) ?_
      refine aw_ialdZ (i) dX6_reduces_43 hra (by omega) (by omega) (by omega) ?_
      rw [hl i (by omega)]
      refine aw_iaddZ dX6_reduces_44 ?_
      refine aw_topi (y := ((165 + 10 * i + l i : Nat) : Int)) (by omega) ?_
      refine aw_sipushZ dX6_reduces_45 (by decide) ?_
      refine aw_topi (y := ((416 : Nat) : Int)) (by omega) ?_
      refine aw_callv vX6_113 dX6_reduces_48 hmo (m_floors g d (a := 165 + 10 * k + l i) (e := 165 + 10 * i + l i) (c := 416) ⟨rk, kn, ar, ac, hmo⟩ hM (by omega) (by omega) (by omega) (by omega) (by omega) (by omega) hpi) (by rfl) (by rfl) (by omega) (Nat.le_of_ble_eq_true rfl) ?_
      rintro _ V1 _ _ _ ⟨rfl, rfl, rfl, hE1, rfl, z1, hM1, hz1⟩ -
      refine q0 ?_
      have hmo1 := (hE1 mo (by unfold EN; omega)).trans hmo
      refine aw_pop dX6_reduces_51 rfl ?_
      refine aw_aload_n dX6_reduces_52 (by rfl) (Or.inr ⟨_, rfl⟩) ?_
      refine aw_iload_n dX6_reduces_53 (by rfl) ?_
      refine aw_iload_n dX6_reduces_54 (by rfl) ?_
      refine aw_iload dX6_reduces_55 (by rfl) ?_
      refine aw_imulZ dX6_reduces_57 ?_
      refine aw_iaddZ dX6_reduces_58 ?_
      refine aw_topi (y := ((165 + 10 * k : Nat) : Int)) (by omega) ?_
      refine aw_iload_n dX6_reduces_59 (by rfl) ?_
      refine aw_iload_n dX6_reduces_60 (by rfl) ?_
      refine aw_iload dX6_reduces_61 (by rfl) ?_
      refine aw_imulZ dX6_reduces_63 ?_
      refine aw_iaddZ dX6_reduces_64 ?_
      refine aw_topi (y := ((165 + 10 * i : Nat) : Int)) (by omega) ?_
      refine aw_iload_n dX6_reduces_65 (by rfl) ?_
      refine aw_sipushZ dX6_reduces_66 (by decide) ?_
      refine aw_topi (y := ((416 : Nat) : Int)) (by omega) ?_
      refine aw_callv vX6_100 dX6_reduces_69 hmo1 (m_takesRow g d (a := 165 + 10 * k) (e := 165 + 10 * i) (n := 10) (f := 416) ⟨rk, kn, ar, ac, hmo1⟩ hM1 (by omega) (by omega) (by omega) (by omega) (fun t ht => by rw [hz1 _ (by omega), upF_self, hz1 _ (by omega), upF_ne _ _ (by omega)]; exact smT (hSm' t ht) (q.bd hp hki hi ht).1) (fun t ht => by rw [hz1 _ (by omega), upF_ne _ _ (by omega), hz1 416 (by omega), upF_self, hz1 _ (by omega), upF_ne _ _ (by omega)]; exact smT (hSm' t ht) (q.bd hp hki hi ht).2)) (by rfl) (by rfl) (by omega) (Nat.le_of_ble_eq_true rfl) ?_
      rintro _ V2 _ _ _ ⟨rfl, rfl, rfl, hE2, rfl, z2, hM2, hTk⟩ -
      refine q0 ?_
      have hmo2 := (hE2 mo (by unfold EN; omega)).trans hmo1
      refine aw_iincZ dX6_reduces_72 (by rfl) (by decide) ?_
      refine aw_goto (tgt := 13) dX6_reduces_75 (by decide) ?_
      rw [show ((k : Int) + 1) = ((k + 1 : Nat) : Int) by omega]
      refine aw_pk [7, 6, 0, 1, 2, 3, 4, 5] (by rfl) ?_
      refine IH (k + 1) (by omega) hmo2 hM2 (fun x hx => ?_) (fun a ha => (hE2 a ha).trans ((hE1 a ha).trans (hV a ha))) (q.step hp hki hi (fun m' hm hne t ht => ?_) (fun t ht => ?_))
      · unfold InR at hx
        rw [hTk x (by omega), if_neg (by omega), hz1 x (by omega), upF_ne _ _ (by omega)]
        exact hF x (by unfold InR; omega)
      · show z2 (165 + 10 * m' + t) = z' (165 + 10 * m' + t)
        rw [hTk _ (by omega), if_neg (by omega), hz1 _ (by omega), upF_ne _ _ (by omega)]
      · show z2 (165 + 10 * k + t) = _
        rw [hTk _ (by omega), if_pos (by omega), hz1 _ (by omega), upF_ne _ _ (by omega), hz1 416 (by omega), upF_self, hz1 _ (by omega), upF_ne _ _ (by omega), show 165 + 10 * i + (165 + 10 * k + t - (165 + 10 * k)) = 165 + 10 * i + t by omega]
        rfl
theorem ro_K (d : Nat) {g : GX} {V0 : AH} {mo sz h : Nat} {rk kn ar ac : Int} {zs RW β e : Nat → Int} {l : Nat → Nat} (hra : V0 (mo + 7) = some (aIz g 11 RW)) (hh : h ≤ 10) (hl : ∀ i, i < h → RW i = (l i : Int)) (hp : RdP (BMx 165 10 zs) h 10 l β e) (hSm : ∀ t, t < 10 → SmM (er e (fun n => β (l n)) h * β t)) : ∀ (y i : Nat), 1 ≤ i → (i + y = h ∨ (h = 0 ∧ y = 0 ∧ i = 1)) → ∀ {V : AH} {z' : Nat → Int}, V mo = some (moO mo rk kn ar ac) → MN g mo V z' → Frm zs z' (InR 165 10 h) → (∀ a, ¬ EN mo a → V a = V0 a) → RdI (BMx 165 10 zs) (BMx 165 10 z') h 10 l β e i 0 → AW g mX6_reduces (d + 3) 3 [(6, .int (iZ i)), (0, .ref mo), (1, .int (iZ 165)), (2, .int (iZ 10)), (3, .int (iZ 10)), (4, .ref (mo + 7)), (5, .int (iZ h))] [] V sz (VX V0 sz (EN mo) (RdQ g mo zs 165 10 h l β e))
  | 0, i, hi1, hy, V, z', hmo, hM, hF, hV, q => by
    refine aw_iload dX6_reduces_3 (by rfl) ?_
    refine aw_iload dX6_reduces_5 (by rfl) ?_
    refine aw_icmp_geZ (tgt := 84) dX6_reduces_7 (by decide) (by omega) (by omega) (fun hc_7 => ?_) (fun hc_7 => ?_)
    · refine aw_ret dX6_reduces_84 rfl ?_
      refine ⟨rfl, rfl, rfl, hV, rfl, z', hM, hF, q.stair hp (by omega), q.1, fun m hm t ht => ?_⟩
      have h8 := q.2.2.2.2 m (by omega) hm t ht
      rw [if_neg (by omega)] at h8
      by_cases c : i = h
      · rw [c] at h8; exact h8
      · obtain rfl : h = 0 := by omega
        omega
    · exact absurd hc_7 (by omega)
  | y + 1, i, hi1, hy, V, z', hmo, hM, hF, hV, q => by
    have IH := fun i h1 h2 => @ro_K d g V0 mo sz h rk kn ar ac zs RW β e l hra hh hl hp hSm y i h1 h2
    refine aw_iload dX6_reduces_3 (by rfl) ?_
    refine aw_iload dX6_reduces_5 (by rfl) ?_
    refine aw_icmp_geZ (tgt := 84) dX6_reduces_7 (by decide) (by omega) (by omega) (fun hc_7 => ?_) (fun hc_7 => ?_)
    · exact absurd hc_7 (by omega)
    · refine aw_iconstZ dX6_reduces_10 ?_
      refine aw_istore dX6_reduces_11 (by decide) ?_
      refine aw_pk [7, 6, 0, 1, 2, 3, 4, 5] (by rfl) ?_
      refine rd_K d (V0 := V0) (zs := zs) (l := l) (β := β) (e := e) (RW := RW) hra hh hl hp hSm (by omega) (by omega) (fun {V2 z2} hmo2 hM2 hF2 hV2 q2 => ?_) i 0 (by omega) hmo hM hF hV q
      refine aw_iincZ dX6_reduces_78 (by rfl) (by decide) ?_
      refine aw_goto (tgt := 3) dX6_reduces_81 (by decide) ?_
      rw [show ((i : Int) + 1) = ((i + 1 : Nat) : Int) by omega]
      refine aw_pk [6, 0, 1, 2, 3, 4, 5] (by rfl) ?_
      exact IH (i + 1) (by omega) (by omega) hmo2 hM2 hF2 hV2 (q2.out hp (by omega))
theorem m_redK (g : GX) (d : Nat) {V : AH} {mo sz h : Nat} {zs RW β e : Nat → Int} {l : Nat → Nat} (hm : moV mo V) (hM : MN g mo V zs) (hra : V (mo + 7) = some (aIz g 11 RW)) (hh : h ≤ 10) (hl : ∀ i, i < h → RW i = (l i : Int)) (hp : RdP (BMx 165 10 zs) h 10 l β e) (hSm : ∀ t, t < 10 → SmM (er e (fun n => β (l n)) h * β t)) : AMet g mX6_reduces (d + 3) [.ref mo, .int (iZ 165), .int (iZ 10), .int (iZ 10), .ref (mo + 7), .int (iZ h)] V sz (VX V sz (EN mo) (RdQ g mo zs 165 10 h l β e)) := by
  obtain ⟨rk, kn, ar, ac, hmo⟩ := hm
  refine AMet.of rfl rfl (Nat.le_of_ble_eq_true rfl) ?_
  show AW g mX6_reduces (d + 3) 0 [(0, .ref mo), (1, .int (iZ 165)), (2, .int (iZ 10)), (3, .int (iZ 10)), (4, .ref (mo + 7)), (5, .int (iZ h))] [] V sz _
  refine aw_iconstZ dX6_reduces_0 ?_
  refine aw_istore dX6_reduces_1 (by decide) ?_
  refine aw_pk [6, 0, 1, 2, 3, 4, 5] (by rfl) ?_
  exact ro_K d hra hh hl hp hSm (h - 1) 1 (by omega) (by omega) hmo hM (fun _ _ => rfl) (fun _ _ => rfl) (RdI.zero hp)

/-! ===== diagonals; mathematics alone ===== -/
theorem dg_d (dd : Nat → Int) (a : Nat) : Dg dd a a = dd a := if_pos rfl
theorem dg_o (dd : Nat → Int) {a j : Nat} (h : a ≠ j) : Dg dd a j = 0 := if_neg h
/-- two of a diagonal become their greatest common divisor and their least common multiple -/
theorem dg_pair {dd : Nat → Int} {r i k m : Nat} {x y g s t d : Int} (hi : i < r) (hk : k < r) (hik : i ≠ k) (hx : dd i = g * x) (hy : dd k = g * y) (hb : s * x + t * y = 1) : DVT m (Dg dd) r r d ↔ DVT m (Dg (upF (upF dd i g) k (g * x * y))) r r d := by
  obtain ⟨de, hde⟩ : ∃ de, upF (upF dd i g) k (g * x * y) = de := ⟨_, rfl⟩
  rw [hde]
  have ei : de i = g := by rw [← hde, upF_ne _ _ hik, upF_self]
  have ek : de k = g * x * y := by rw [← hde, upF_self]
  have eo : ∀ a, a ≠ i → a ≠ k → de a = dd a := fun a h1 h2 => by rw [← hde, upF_ne _ _ h2, upF_ne _ _ h1]
  obtain ⟨M1, h1⟩ : ∃ M1 : Mat, M1 = fun a j => if a = i then (if j = i then g * x else if j = k then g * y else 0) else Dg dd a j := ⟨_, rfl⟩
  obtain ⟨M2, h2⟩ : ∃ M2 : Mat, M2 = fun a j => if a = i then (if j = i then g else if j = k then t * (g * y) else 0) else Dg de a j := ⟨_, rfl⟩
  have m1ii : M1 i i = g * x := by rw [h1]; show (if i = i then (if i = i then _ else _) else _) = _; rw [if_pos rfl, if_pos rfl]
  have m1ik : M1 i k = g * y := by rw [h1]; show (if i = i then (if k = i then _ else if k = k then _ else _) else _) = _; rw [if_pos rfl, if_neg (Ne.symm hik), if_pos rfl]
  have m1io : ∀ j, j ≠ i → j ≠ k → M1 i j = 0 := fun j q1 q2 => by rw [h1]; show (if i = i then (if j = i then _ else if j = k then _ else _) else _) = _; rw [if_pos rfl, if_neg q1, if_neg q2]
  have m1o : ∀ a j, a ≠ i → M1 a j = Dg dd a j := fun a j q => by rw [h1]; show (if a = i then _ else _) = _; rw [if_neg q]
  have m2ii : M2 i i = g := by rw [h2]; show (if i = i then (if i = i then _ else _) else _) = _; rw [if_pos rfl, if_pos rfl]
  have m2ik : M2 i k = t * (g * y) := by rw [h2]; show (if i = i then (if k = i then _ else if k = k then _ else _) else _) = _; rw [if_pos rfl, if_neg (Ne.symm hik), if_pos rfl]
  have m2io : ∀ j, j ≠ i → j ≠ k → M2 i j = 0 := fun j q1 q2 => by rw [h2]; show (if i = i then (if j = i then _ else if j = k then _ else _) else _) = _; rw [if_pos rfl, if_neg q1, if_neg q2]
  have m2o : ∀ a j, a ≠ i → M2 a j = Dg de a j := fun a j q => by rw [h2]; show (if a = i then _ else _) = _; rw [if_neg q]
  clear h1 h2
  have hki := Ne.symm hik
  have s1 : SpEq (Dg dd) r M1 r r := SpEq.op (q := -1) hi hk hki (fun a _ hne j _ => m1o a j hne) (fun j _ => by
    by_cases q1 : j = i
    · rw [q1, m1ii, dg_d, dg_o dd hki, hx]; omega
    · by_cases q2 : j = k
      · rw [q2, m1ik, dg_o dd hik, dg_d, hy]; omega
      · rw [m1io j q1 q2, dg_o dd (Ne.symm q1), dg_o dd (Ne.symm q2)]; rfl)
  have a1 : x * (t * (g * y)) = t * (g * x * y) := by simp only [Int.mul_comm, Int.mul_left_comm, Int.mul_assoc]
  have a2 : y * (t * (g * y)) + s * (g * x * y) = g * y := by
    have e : y * (t * (g * y)) + s * (g * x * y) = (s * x + t * y) * (g * y) := by
      rw [Int.add_mul, Int.add_comm]
      congr 1 <;> simp only [Int.mul_comm, Int.mul_left_comm, Int.mul_assoc]
    rw [e, hb, Int.one_mul]
  have a3 : s * (g * x) + t * (g * y) = g := by
    have e : s * (g * x) + t * (g * y) = (s * x + t * y) * g := by
      rw [Int.add_mul]
      congr 1 <;> simp only [Int.mul_comm, Int.mul_left_comm, Int.mul_assoc]
    rw [e, hb, Int.one_mul]
  have a4 : y * (g * x) = x * (g * y) := by simp only [Int.mul_comm, Int.mul_left_comm]
  have a5 : x * (g * y) = g * x * y := by simp only [Int.mul_comm, Int.mul_left_comm]
  have s2 : SpEq (fun a j => M1 j a) r M2 r r := by
    have other : ∀ a, a ≠ i → a ≠ k → ∀ j, M1 j a = M2 a j := fun a q1 q2 j => by
      rw [m2o a j q1]
      by_cases e : j = i
      · rw [e, m1io a q1 q2, dg_o de q1]
      · rw [m1o j a e]
        by_cases e2 : j = a
        · rw [e2, dg_d, dg_d, eo a q1 q2]
        · rw [dg_o dd e2, dg_o de (Ne.symm e2)]
    refine SpEq.of (fun a ha => ?_) (fun a ha => ?_)
    · by_cases q1 : a = i
      · rw [q1]
        refine ((Span.row hi).lin x (-t) (Span.row hk)).congr (fun j _ => ?_)
        show x * M2 i j + -t * M2 k j = M1 j i
        rw [m2o k j hki]
        by_cases e1 : j = i
        · rw [e1, m2ii, m1ii, dg_o de hki, Int.mul_comm x]; omega
        · by_cases e2 : j = k
          · rw [e2, m2ik, m1o k i hki, dg_o dd hki, dg_d, ek, a1, Int.neg_mul]; omega
          · rw [m2io j e1 e2, m1o j i e1, dg_o dd e1, dg_o de (Ne.symm e2)]; omega
      · by_cases q2 : a = k
        · rw [q2]
          refine ((Span.row hi).lin y s (Span.row hk)).congr (fun j _ => ?_)
          show y * M2 i j + s * M2 k j = M1 j k
          rw [m2o k j hki]
          by_cases e1 : j = i
          · rw [e1, m2ii, m1ik, dg_o de hki, Int.mul_comm y]; omega
          · by_cases e2 : j = k
            · rw [e2, m2ik, m1o k k hki, dg_d, dg_d, ek, hy, a2]
            · rw [m2io j e1 e2, m1o j k e1, dg_o dd e2, dg_o de (Ne.symm e2)]; omega
        · exact (Span.row ha).congr (fun j _ => (other a q1 q2 j).symm)
    · by_cases q1 : a = i
      · rw [q1]
        refine ((Span.row (A := fun a j => M1 j a) hi).lin s t (Span.row hk)).congr (fun j _ => ?_)
        show s * M1 j i + t * M1 j k = M2 i j
        by_cases e1 : j = i
        · rw [e1, m1ii, m1ik, m2ii, a3]
        · by_cases e2 : j = k
          · rw [e2, m1o k i hki, m1o k k hki, dg_o dd hki, dg_d, m2ik, hy]; omega
          · rw [m1o j i e1, m1o j k e1, dg_o dd e1, dg_o dd e2, m2io j e1 e2]; omega
      · by_cases q2 : a = k
        · rw [q2]
          refine ((Span.row (A := fun a j => M1 j a) hi).lin (-y) x (Span.row hk)).congr (fun j _ => ?_)
          show -y * M1 j i + x * M1 j k = M2 k j
          rw [m2o k j hki]
          by_cases e1 : j = i
          · rw [e1, m1ii, m1ik, dg_o de hki, Int.neg_mul, a4]; omega
          · by_cases e2 : j = k
            · rw [e2, m1o k i hki, m1o k k hki, dg_o dd hki, dg_d, dg_d, ek, hy, a5]; omega
            · rw [m1o j i e1, m1o j k e1, dg_o dd e1, dg_o dd e2, dg_o de (Ne.symm e2)]; omega
        · exact (Span.row (A := fun a j => M1 j a) ha).congr (fun j _ => other a q1 q2 j)
  have s3 : SpEq (Dg de) r (fun a j => M2 j a) r r := SpEq.op (q := -(t * y)) hk hi hik (fun a _ hne j _ => by
    show M2 j a = Dg de a j
    by_cases e1 : j = i
    · rw [e1]
      by_cases e2 : a = i
      · rw [e2, m2ii, dg_d, ei]
      · rw [m2io a e2 hne, dg_o de e2]
    · rw [m2o j a e1]
      by_cases e2 : j = a
      · rw [e2]
      · rw [dg_o de e2, dg_o de (Ne.symm e2)]) (fun j _ => by
    show M2 j k = _
    by_cases e1 : j = i
    · rw [e1, m2ik, dg_o de hki, dg_d, ei, Int.neg_mul, show t * y * g = t * (g * y) by rw [Int.mul_assoc, Int.mul_comm y]]; omega
    · rw [m2o j k e1, dg_o de (Ne.symm e1)]
      by_cases e2 : j = k
      · rw [e2]; omega
      · rw [dg_o de e2, dg_o de (Ne.symm e2)]; omega)
  exact (DVT.eq s1).trans (DVT.T.trans ((DVT.eq s2).trans (DVT.T.trans (DVT.eq s3).symm)))
/-- a square STAIR has its leads on the diagonal -/
theorem sq_lead {A : Mat} {h : Nat} {l : Nat → Nat} (e : Ech A h h l) : ∀ i, i < h → l i = i := by
  have h1 : ∀ x i, i + x + 1 = h → l i ≤ i := fun x => by
    induction x with
    | zero => intro i hi; have := (e.1 i (by omega)).1; omega
    | succ x ih =>
      intro i hi
      have h2 := ih (i + 1) (by omega)
      have h3 := e.2 i (i + 1) (by omega) (by omega)
      omega
  intro i hi
  have h2 := h1 (h - 1 - i) i (by omega)
  have h3 := e.le_l i hi
  omega
theorem sq_up {A : Mat} {h : Nat} {l : Nat → Nat} (e : Ech A h h l) {i j : Nat} (hi : i < h) (hj : j < i) : A i j = 0 := (e.1 i hi).2.2 j (by rw [sq_lead e i hi]; exact hj)
/-- products of the first leads, of a STAIR and of the next one -/
theorem sq_dvd {A B : Mat} {h : Nat} {l l' : Nat → Nat} (sa : Stair A h h l) (sb : Stair B h h l') (hs : SpEq (fun i j => A j i) h B h h) {k : Nat} (hk : k ≤ h) : ∃ c : Int, 1 ≤ c ∧ Pd (fun i => A i i) k = c * Pd (fun i => B i i) k := by
  have hch : ∀ i, ∃ cf : Nat → Int, i < h → ∀ j, j < h → A j i = Sg (fun e => cf e * B e j) h := fun i => by
    by_cases hi : i < h
    · obtain ⟨cf, hcf⟩ := (hs (fun j => A j i)).mp (Span.row (A := fun i j => A j i) hi)
      exact ⟨cf, fun _ => hcf⟩
    · exact ⟨fun _ => 0, fun z => absurd z hi⟩
  have e1 : det k (fun a b => A b a) = det k (fun a b => Sg (fun e => (hch a).choose e * B e b) k) := det_congr (fun a b ha hb => by
    rw [(hch a).choose_spec (by omega) b (by omega)]
    exact Sg_cut hk (fun e h1 h2 => by rw [sq_up sb.1 h2 (by omega), Int.mul_zero]))
  rw [ml_main k (ml_det k) (fun a e => (hch a).choose e) B] at e1
  rw [det_low (A := fun a b => A b a) (fun i j hij hj => sq_up sa.1 (by omega) hij), ← det_T k B, det_low (A := fun a b => B b a) (fun i j hij hj => sq_up sb.1 (by omega) hij)] at e1
  refine ⟨_, ?_, e1⟩
  have p1 : 1 ≤ Pd (fun i => A i i) k := Pd_pos (fun i hi => by have := sa.2.1 i (by omega); rw [sq_lead sa.1 i (by omega)] at this; show 1 ≤ A i i; omega)
  have p2 : 1 ≤ Pd (fun i => B i i) k := Pd_pos (fun i hi => by have := sb.2.1 i (by omega); rw [sq_lead sb.1 i (by omega)] at this; show 1 ≤ B i i; omega)
  generalize det k (fun a e => (hch a).choose e) = c at *
  generalize Pd (fun i => A i i) k = x at *
  generalize Pd (fun i => B i i) k = y at *
  rcases Int.lt_or_le 0 c with q | q
  · omega
  · have := Int.mul_le_mul_of_nonneg_right q (show 0 ≤ y by omega)
    omega
/-- the same leads: then the next STAIR is a diagonal -/
theorem sq_done {A B : Mat} {h : Nat} {l l' : Nat → Nat} (sa : Stair A h h l) (sb : Stair B h h l') (hs : SpEq (fun i j => A j i) h B h h) (he : ∀ i, i < h → A i i = B i i) : ∀ n, n ≤ h → ∀ i, i < n → ∀ j, j < h → i ≠ j → B i j = 0
  | 0, _, i, hi, _, _, _ => absurd hi (by omega)
  | n + 1, hn, i, hi, j, hj, hij => by
    have ih := sq_done sa sb hs he n (by omega)
    by_cases q : i < n
    · exact ih i q j hj hij
    · obtain rfl : i = n := by omega
      obtain ⟨c, hc⟩ := (hs (fun j => A j i)).mp (Span.row (A := fun i j => A j i) (show i < h by omega))
      have hu : Span B h h (fun j => if j = i then B i i else 0) := by
        refine ⟨fun e => if e < i then 0 else c e, fun j hj => ?_⟩
        by_cases q1 : j < i
        · show (if j = i then B i i else 0) = Sg (fun e => (if e < i then 0 else c e) * B e j) h
          rw [if_neg (by omega)]
          refine (Sg_zero (fun e he2 => ?_)).symm
          by_cases q2 : e < i
          · rw [if_pos q2, Int.zero_mul]
          · rw [sq_up sb.1 he2 (by omega), Int.mul_zero]
        · have h1 : A j i = Sg (fun e => c e * B e j) h := hc j hj
          have h2 : Sg (fun e => (if e < i then 0 else c e) * B e j) h = Sg (fun e => c e * B e j) h := Sg_congr (fun e _ => by
            by_cases q2 : e < i
            · rw [if_pos q2, Int.zero_mul, ih e q2 j hj (by omega), Int.mul_zero]
            · rw [if_neg q2])
          show (if j = i then B i i else 0) = Sg (fun e => (if e < i then 0 else c e) * B e j) h
          rw [h2, ← h1]
          by_cases q3 : j = i
          · rw [if_pos q3, q3, he i (by omega)]
          · rw [if_neg q3, sq_up sa.1 hj (by omega)]
      have hd := red_zero sb ((Span.row (show i < h by omega)).sub (q := 1) hu) (fun k hk => by
        rw [sq_lead sb.1 k hk]
        show 0 ≤ B i k - 1 * (if k = i then B i i else 0) ∧ B i k - 1 * (if k = i then B i i else 0) < B k k
        have hpk := sb.2.1 k hk
        rw [sq_lead sb.1 k hk] at hpk
        rcases Nat.lt_trichotomy i k with q1 | q1 | q1
        · have := sb.2.2 i k q1 hk
          rw [sq_lead sb.1 k hk] at this
          rw [if_neg (by omega)]; omega
        · rw [q1, if_pos rfl]; omega
        · rw [if_neg (by omega), sq_up sb.1 (show i < h by omega) q1]; omega) j hj
      have hd : B i j - 1 * (if j = i then B i i else 0) = 0 := hd
      rw [if_neg (by omega)] at hd
      omega
theorem Pd_two {f f' : Nat → Int} : ∀ {n : Nat}, (∀ i, i < n → 1 ≤ f i ∧ f i ≤ f' i) → Pd f n ≤ Pd f' n ∧ ((∃ i, i < n ∧ 2 * f i ≤ f' i) → 2 * Pd f n ≤ Pd f' n)
  | 0, _ => ⟨Int.le_refl _, fun ⟨i, hi, _⟩ => absurd hi (by omega)⟩
  | n + 1, h => by
    obtain ⟨h1, h2⟩ := Pd_two (f := f) (f' := f') (n := n) (fun i hi => h i (by omega))
    have h3 := h n (by omega)
    have p1 : 1 ≤ Pd f n := Pd_pos (fun i hi => (h i (by omega)).1)
    show Pd f n * f n ≤ Pd f' n * f' n ∧ _
    refine ⟨Int.mul_le_mul h1 h3.2 (by omega) (by omega), fun ⟨i, hi, e⟩ => ?_⟩
    show 2 * (Pd f n * f n) ≤ Pd f' n * f' n
    by_cases q : i = n
    · subst q
      have := Int.mul_le_mul h1 e (by omega) (by omega)
      rw [← Int.mul_assoc, Int.mul_comm 2, Int.mul_assoc]
      exact this
    · have := Int.mul_le_mul (h2 ⟨i, by omega, e⟩) h3.2 (by omega) (by omega)
      rwa [Int.mul_assoc] at this
/-- the measure of a square STAIR -/
def sqm (A : Mat) (h : Nat) : Int := Pd (fun k => Pd (fun i => A i i) (k + 1)) h
theorem sq_step {A B : Mat} {h : Nat} {l l' : Nat → Nat} (sa : Stair A h h l) (sb : Stair B h h l') (hs : SpEq (fun i j => A j i) h B h h) : (∀ i j, i < h → j < h → i ≠ j → B i j = 0) ∨ 2 * sqm B h ≤ sqm A h := by
  have pb : ∀ k, k ≤ h → 1 ≤ Pd (fun i => B i i) k := fun k hk => Pd_pos (fun i hi => by have := sb.2.1 i (by omega); rw [sq_lead sb.1 i (by omega)] at this; show 1 ≤ B i i; omega)
  have key : ∀ k, k < h → 1 ≤ Pd (fun i => B i i) (k + 1) ∧ Pd (fun i => B i i) (k + 1) ≤ Pd (fun i => A i i) (k + 1) ∧ (Pd (fun i => A i i) (k + 1) = Pd (fun i => B i i) (k + 1) ∨ 2 * Pd (fun i => B i i) (k + 1) ≤ Pd (fun i => A i i) (k + 1)) := fun k hk => by
    obtain ⟨c, h1, h2⟩ := sq_dvd sa sb hs (k := k + 1) (by omega)
    have h3 := pb (k + 1) (by omega)
    rw [h2]
    generalize Pd (fun i => B i i) (k + 1) = y at *
    refine ⟨h3, ?_, ?_⟩
    · have := Int.mul_le_mul_of_nonneg_right h1 (show 0 ≤ y by omega)
      omega
    · by_cases e : c = 1
      · rw [e]; exact Or.inl (by omega)
      · have := Int.mul_le_mul_of_nonneg_right (show 2 ≤ c by omega) (show 0 ≤ y by omega)
        exact Or.inr this
  by_cases hq : ∃ k, k < h ∧ 2 * Pd (fun i => B i i) (k + 1) ≤ Pd (fun i => A i i) (k + 1)
  · exact Or.inr ((Pd_two (f := fun k => Pd (fun i => B i i) (k + 1)) (f' := fun k => Pd (fun i => A i i) (k + 1)) (fun k hk => ⟨(key k hk).1, (key k hk).2.1⟩)).2 hq)
  · have heq : ∀ k, k ≤ h → Pd (fun i => A i i) k = Pd (fun i => B i i) k := fun k hk => by
      cases k with
      | zero => rfl
      | succ k => exact (key k (by omega)).2.2.elim id (fun z => absurd ⟨k, by omega, z⟩ hq)
    refine Or.inl (fun i j hi hj hij => sq_done sa sb hs (fun i hi => ?_) h (Nat.le_refl _) i hi j hj hij)
    have h1 := heq i (by omega)
    have h2 := heq (i + 1) (by omega)
    have h3 := pb i (by omega)
    have h2 : Pd (fun i => A i i) i * A i i = Pd (fun i => B i i) i * B i i := h2
    rw [h1] at h2
    exact Int.eq_of_mul_eq_mul_left (by omega) h2

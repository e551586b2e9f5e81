/-! ===== order: the least multiple in a lattice; the reference's order ===== -/
def OrP (B : Mat) (h w : Nat) (l : Nat → Nat) (b : Nat → Int) (k : Nat) (M : Int) (W : Nat → Int) : Prop := 0 < M ∧ (∃ cf : Nat → Int, ∀ j, j < w → W j = M * b j - Sg (fun i => cf i * B i j) k) ∧ (∀ i, i < k → W (l i) = 0) ∧ ∀ n : Int, Span B h w (fun j => n * b j) → M ∣ n
theorem gcd_dvd_of {p W s : Int} (hp : 0 < p) (h : p ∣ s * W) : p / ((Int.gcd p W : Nat) : Int) ∣ s := by
  have hg : 0 < Nat.gcd p.natAbs W.natAbs := Nat.gcd_pos_of_pos_left _ (by omega)
  have e1 : ((Int.gcd p W : Nat) : Int) = ((Nat.gcd p.natAbs W.natAbs : Nat) : Int) := rfl
  have e2 : p / ((Int.gcd p W : Nat) : Int) = ((p.natAbs / Nat.gcd p.natAbs W.natAbs : Nat) : Int) := by
    rw [e1, Int.natCast_ediv, Int.natAbs_of_nonneg (by omega)]
  rw [e2]
  refine Int.natAbs_dvd_natAbs.mp ?_
  rw [Int.natAbs_natCast]
  have h2 : p.natAbs ∣ s.natAbs * W.natAbs := by
    have := Int.natAbs_dvd_natAbs.mpr h
    rwa [Int.natAbs_mul] at this
  have hc := Nat.coprime_div_gcd_div_gcd hg
  refine hc.dvd_of_dvd_mul_right ?_
  have d1 := Nat.div_mul_cancel (Nat.gcd_dvd_left p.natAbs W.natAbs)
  have d2 := Nat.div_mul_cancel (Nat.gcd_dvd_right p.natAbs W.natAbs)
  generalize hG : Nat.gcd p.natAbs W.natAbs = G at *
  refine Nat.dvd_of_mul_dvd_mul_right hg ?_
  rw [d1, Nat.mul_assoc, d2]
  exact h2
theorem gcd_mul {p W : Int} (hp : 0 < p) : 0 < p / ((Int.gcd p W : Nat) : Int) ∧ p / ((Int.gcd p W : Nat) : Int) ≤ p ∧ (p / ((Int.gcd p W : Nat) : Int) * W) % p = 0 := by
  have hg : 0 < Nat.gcd p.natAbs W.natAbs := Nat.gcd_pos_of_pos_left _ (by omega)
  have hg' : 0 < Int.gcd p W := hg
  obtain ⟨u, hu⟩ : ((Int.gcd p W : Nat) : Int) ∣ p := Int.gcd_dvd_left ..
  obtain ⟨v, hv⟩ : ((Int.gcd p W : Nat) : Int) ∣ W := Int.gcd_dvd_right ..
  generalize Int.gcd p W = G at *
  have hG : (0 : Int) < (G : Int) := by omega
  have e1 : p / (G : Int) = u := by rw [hu]; exact Int.mul_ediv_cancel_left u (by omega)
  rw [e1]
  have hup : ¬ u ≤ 0 := fun z => by
    have := Int.mul_le_mul_of_nonneg_left z (Int.le_of_lt hG)
    rw [Int.mul_zero, ← hu] at this
    omega
  have hup : 0 < u := by omega
  refine ⟨hup, ?_, ?_⟩
  · have := Int.mul_le_mul_of_nonneg_right (show (1 : Int) ≤ (G : Int) by omega) (show 0 ≤ u by omega)
    omega
  · rw [hv, show u * ((G : Int) * v) = p * v by rw [hu, ← Int.mul_assoc, Int.mul_comm u]]
    exact Int.mul_emod_right p v
theorem OrP.step {B : Mat} {h w k : Nat} {l : Nat → Nat} {b W W' : Nat → Int} {M u q : Int} (e : Ech B h w l) (p : OrP B h w l b k M W) (hk : k < h) (hp : 0 < B k (l k)) (hu : u = B k (l k) / ((Int.gcd (B k (l k)) (W (l k)) : Nat) : Int)) (hq : q = (u * W (l k)) / B k (l k)) (hW : ∀ j, j < w → W' j = u * W j - q * B k j) : OrP B h w l b (k + 1) (M * u) W' := by
  obtain ⟨p1, ⟨cf, p2⟩, p3, p4⟩ := p
  obtain ⟨g1, g2, g3⟩ := gcd_mul (W := W (l k)) hp
  rw [← hu] at g1 g2 g3
  refine ⟨Int.mul_pos p1 g1, ⟨upF (fun i => u * cf i) k q, fun j hj => ?_⟩, fun i hi => ?_, fun n hn => ?_⟩
  · rw [hW j hj, p2 j hj]
    show _ = M * u * b j - (Sg (fun i => upF (fun i => u * cf i) k q i * B i j) k + upF (fun i => u * cf i) k q k * B k j)
    rw [upF_self, Sg_congr (f := fun i => upF (fun i => u * cf i) k q i * B i j) (h := fun i => u * (cf i * B i j) + 0 * 0) (fun i hi => by show upF (fun i => u * cf i) k q i * B i j = _; rw [upF_ne _ _ (by omega), Int.mul_assoc]; omega), Sg_lin (fun i => cf i * B i j) (fun _ => 0) u 0 k, Int.mul_sub, ← Int.mul_assoc, Int.mul_comm u M]
    omega
  · have hli : l i < w := (e.1 i (by omega)).1
    rw [hW _ hli]
    by_cases e1 : i = k
    · subst e1
      have := Int.ediv_mul_cancel_of_emod_eq_zero g3
      rw [hq]; omega
    · rw [p3 i (by omega), (e.1 k hk).2.2 (l i) (e.2 i k (by omega) hk), Int.mul_zero, Int.mul_zero]; rfl
  · obtain ⟨s, rfl⟩ := p4 n hn
    have hs : Span B h w (fun j => s * W j) := by
      have h2 : Span B h w (fun j => Sg (fun i => cf i * B i j) k) := span_sum (A' := B) (fun i hi => Span.row (by omega))
      refine (Span.sub (q := s) hn h2).congr (fun j hj => ?_)
      rw [p2 j hj, Int.mul_sub, ← Int.mul_assoc, Int.mul_comm s M]
    obtain ⟨q', hq'⟩ := ech_mul e hs hk (fun i hi => by show s * W (l i) = 0; rw [p3 i hi, Int.mul_zero])
    have hd : u ∣ s := by
      rw [hu]
      exact gcd_dvd_of hp ⟨q', hq'.trans (Int.mul_comm _ _)⟩
    exact Int.mul_dvd_mul_left M hd
theorem OrP.yes {B : Mat} {h w : Nat} {l : Nat → Nat} {b W : Nat → Int} {M : Int} (p : OrP B h w l b h M W) (h0 : ∀ j, j < w → W j = 0) : Span B h w (fun j => M * b j) := by
  obtain ⟨-, ⟨cf, p2⟩, -⟩ := p
  refine ⟨cf, fun j hj => ?_⟩
  have := p2 j hj
  rw [h0 j hj] at this
  show M * b j = _
  omega
theorem OrP.no {B : Mat} {h w j0 : Nat} {l : Nat → Nat} {b W : Nat → Int} {M n : Int} (e : Ech B h w l) (p : OrP B h w l b h M W) (hj : j0 < w) (h0 : W j0 ≠ 0) (hn0 : 0 < n) : ¬ Span B h w (fun j => n * b j) := fun hn => by
  obtain ⟨p1, ⟨cf, p2⟩, p3, p4⟩ := p
  obtain ⟨s, rfl⟩ := p4 n hn
  have hs : Span B h w (fun j => s * W j) := by
    have h2 : Span B h w (fun j => Sg (fun i => cf i * B i j) h) := span_sum (A' := B) (fun i hi => Span.row hi)
    refine (Span.sub (q := s) hn h2).congr (fun j hj => ?_)
    rw [p2 j hj, Int.mul_sub, ← Int.mul_assoc, Int.mul_comm s M]
  have := ech_zero e hs (fun i hi => by show s * W (l i) = 0; rw [p3 i hi, Int.mul_zero]) j0 hj
  rcases Int.mul_eq_zero.mp this with z | z
  · rw [z, Int.mul_zero] at hn0; omega
  · exact h0 z
def OrdR (S : TSt) (A : ASt) (x y k : Nat) (q : Option Value) (A' : ASt) : Prop := (some (.int (iZ 1)) = q ∧ ∃ M : Int, 0 < M ∧ Span (TM (S.N x)) (S.r x) (S.c x) (fun j => M * S.N y (5 * k + j)) ∧ (∀ n : Int, Span (TM (S.N x)) (S.r x) (S.c x) (fun j => n * S.N y (5 * k + j)) → M ∣ n) ∧ AIs A' 1 1 (fun _ _ => M)) ∨ (some (.int (iZ 0)) = q ∧ (∀ n : Int, 0 < n → ¬ Span (TM (S.N x)) (S.r x) (S.c x) (fun j => n * S.N y (5 * k + j))) ∧ A' = A)

/-! ===== the reference's combined STAIR is the class's STAIR of (T|1) ===== -/
theorem SpEq.col {A A' : Mat} {n m w w' : Nat} {φ : Nat → Nat} (h : SpEq A n A' m w) (hφ : ∀ j, j < w' → φ j < w) : SpEq (fun i j => A i (φ j)) n (fun i j => A' i (φ j)) m w' := by
  have key : ∀ {B B' : Mat} {a b : Nat}, (∀ x, Span B a w x → Span B' b w x) → ∀ i, i < a → Span (fun i j => B' i (φ j)) b w' (fun j => B i (φ j)) := fun {B B' a b} hh i hi => by
    obtain ⟨c, hc⟩ := hh (B i) (Span.row hi)
    exact ⟨c, fun j hj => hc (φ j) (hφ j hj)⟩
  exact SpEq.of (key (fun x => (h x).mp)) (key (fun x => (h x).mpr))
def phi (c : Nat) : Nat → Nat := fun j => if j < c then j else 5 + (j - c)
theorem phi_lt {c n j : Nat} (hc : c ≤ 5) (hn : n ≤ 10) (hj : j < c + n) : phi c j < 15 := by unfold phi; split <;> omega
/-- the combined STAIR, its empty columns left out -/
def CPx (c r : Nat) (z : Nat → Int) : Mat := fun i j => CMx r z i (phi c j)
def lpx (c r : Nat) (l lk : Nat → Nat) : Nat → Nat := fun i => if i < r then l i else c + lk (i - r)
theorem cp_main {N : Nat → Int} {NJ : Mat} {z : Nat → Int} {c n r κ : Nat} {l lk : Nat → Nat} (hc : c ≤ 5) (hn : n ≤ 10) (hst : Stair (CMx r z) (r + κ) 15 (lcx r l lk)) (hl5 : ∀ i, i < r → l i < 5) (hsp : SpEq (GTx NJ) n (CMx r z) (r + κ) 15) (hNJ : ∀ i j, i < n → j < 5 → NJ i j = if j < c then N (5 * i + j) else 0) : Stair (CPx c r z) (r + κ) (c + n) (lpx c r l lk) ∧ SpEq (TU N c) n (CPx c r z) (r + κ) (c + n) ∧ (∀ i, i < r → l i < c) ∧ ∀ e, e < κ → lk e < n := by
  have hzero : ∀ j, j < 15 → (∀ i, i < n → GTx NJ i j = 0) → ∀ k, k < r + κ → CMx r z k j = 0 := fun j hj h0 k hk => by
    obtain ⟨cf, hcf⟩ := (hsp (CMx r z k)).mpr (Span.row hk)
    rw [hcf j hj]
    exact Sg_zero (fun i hi => by rw [h0 i hi, Int.mul_zero])
  have hlc : ∀ i, i < r → l i < c := fun i hi => by
    rcases Nat.lt_or_ge (l i) c with q | q
    · exact q
    · exfalso
      have h1 := hl5 i hi
      have h2 := hst.2.1 i (by omega)
      rw [lcx_s hi, hzero (l i) (by omega) (fun k hk => by unfold GTx; rw [if_pos h1, hNJ k _ hk h1, if_neg (by omega)]) i (by omega)] at h2
      omega
  have hlk : ∀ e, e < κ → lk e < n := fun e he => by
    rcases Nat.lt_or_ge (lk e) n with q | q
    · exact q
    · exfalso
      have h1 := (hst.1.1 (r + e) (by omega)).1
      have h2 := hst.2.1 (r + e) (by omega)
      rw [lcx_k] at h1 h2
      rw [hzero (5 + lk e) (by omega) (fun k hk => by unfold GTx; rw [if_neg (by omega), if_neg (by omega)]) (r + e) (by omega)] at h2
      omega
  have hlp : ∀ i, i < r + κ → phi c (lpx c r l lk i) = lcx r l lk i ∧ lpx c r l lk i < c + n := fun i hi => by
    unfold lpx lcx phi
    by_cases e : i < r
    · rw [if_pos e, if_pos e, if_pos (hlc i e)]
      exact ⟨rfl, by have := hlc i e; omega⟩
    · rw [if_neg e, if_neg e, if_neg (by omega)]
      have := hlk (i - r) (by omega)
      exact ⟨by omega, by omega⟩
  have hmono : ∀ a b, a < b → phi c a < phi c b := fun a b hab => by unfold phi; split <;> split <;> omega
  refine ⟨⟨⟨fun i hi => ?_, fun i k h1 h2 => ?_⟩, fun i hi => ?_, fun i k h1 h2 => ?_⟩, ?_, hlc, hlk⟩
  · obtain ⟨a1, a2, a3⟩ := hst.1.1 i hi
    refine ⟨(hlp i hi).2, ?_, fun j hj => ?_⟩
    · unfold CPx; rw [(hlp i hi).1]; exact a2
    · have := hmono j _ hj
      rw [(hlp i hi).1] at this
      exact a3 _ this
  · have h3 := hst.1.2 i k h1 h2
    rw [← (hlp i (by omega)).1, ← (hlp k h2).1] at h3
    rcases Nat.lt_or_ge (lpx c r l lk i) (lpx c r l lk k) with q | q
    · exact q
    · exfalso
      rcases Nat.eq_or_lt_of_le q with q2 | q2
      · rw [q2] at h3; omega
      · have := hmono _ _ q2; omega
  · unfold CPx; rw [(hlp i hi).1]; exact hst.2.1 i hi
  · unfold CPx; rw [(hlp k h2).1]; exact hst.2.2 i k h1 h2
  · refine SpEq.tr (SpEq.cong (fun i hi j hj => ?_)) (hsp.col (fun j hj => phi_lt hc hn hj))
    show TU N c i j = GTx NJ i (phi c j)
    by_cases e : j < c
    · unfold TU GTx phi
      rw [if_pos e, if_pos e, if_pos (by omega), hNJ i j hi (by omega), if_pos e]
    · have e2 : GTx NJ i (phi c j) = if j - c = i then 1 else 0 := by
        unfold GTx phi
        rw [if_neg e, if_neg (by omega), show 5 + (j - c) - 5 = j - c by omega]
      rw [e2]
      unfold TU
      rw [if_neg e]
/-- the STAIR of T out of that of (T|1) -/
theorem stair_of {A : Mat} {N : Nat → Int} {h c r t : Nat} {l : Nat → Nat} (hs : Stair A h (c + r) l) (hp : SpEq (TU N c) r A h (c + r)) (ht : t ≤ h ∧ (∀ i, i < t → l i < c) ∧ (t < h → c ≤ l t)) : Stair A t c l ∧ SpEq (TM N) r A t c := by
  obtain ⟨t1, t2, t3⟩ := ht
  have hge : ∀ i, t ≤ i → i < h → c ≤ l i := fun i h1 h2 => by
    by_cases e : i = t
    · rw [e]; exact t3 (by omega)
    · have := hs.1.2 t i (by omega) h2
      have := t3 (by omega)
      omega
  refine ⟨⟨⟨fun i hi => ⟨t2 i hi, (hs.1.1 i (by omega)).2⟩, fun i k h1 h2 => hs.1.2 i k h1 (by omega)⟩, fun i hi => hs.2.1 i (by omega), fun i k h1 h2 => hs.2.2 i k h1 (by omega)⟩, ?_⟩
  have hrow : ∀ x, Span A h (c + r) x → Span A t c x := fun x hx => by
    obtain ⟨cf, hcf⟩ := hx
    refine ⟨cf, fun j hj => ?_⟩
    rw [hcf j (by omega)]
    have : ∀ m, t + m ≤ h → Sg (fun i => cf i * A i j) (t + m) = Sg (fun i => cf i * A i j) t := fun m => by
      induction m with
      | zero => intro _; rfl
      | succ m ih =>
        intro hm
        rw [← Nat.add_assoc]
        simp only [Sg]
        rw [ih (by omega), (hs.1.1 (t + m) (by omega)).2.2 j (by have := hge (t + m) (by omega) (by omega); omega), Int.mul_zero, Int.add_zero]
    have := this (h - t) (by omega)
    rw [show t + (h - t) = h by omega] at this
    exact this
  refine SpEq.of (fun i hi => ?_) (fun i hi => ?_)
  · refine (hrow _ ((hp _).mp (Span.row hi))).congr (fun j hj => ?_)
    unfold TU TM
    rw [if_pos hj]
  · obtain ⟨cf, hcf⟩ := (hp (A i)).mpr (Span.row (by omega))
    refine ⟨cf, fun j hj => ?_⟩
    rw [hcf j (by omega)]
    refine Sg_congr (fun k _ => ?_)
    unfold TU TM
    rw [if_pos hj]
theorem cp_split {c r κ : Nat} {l lk : Nat → Nat} (hlc : ∀ i, i < r → l i < c) : r ≤ r + κ ∧ (∀ i, i < r → lpx c r l lk i < c) ∧ (r < r + κ → c ≤ lpx c r l lk r) := ⟨by omega, fun i hi => by unfold lpx; rw [if_pos hi]; exact hlc i hi, fun _ => by unfold lpx; rw [if_neg (by omega)]; omega⟩
theorem cp_s {c r i j : Nat} {z : Nat → Int} (hi : i < r) (hj : j < c) : CPx c r z i j = z (15 * i + j) := by unfold CPx phi; rw [if_pos hj, cm_s hi]
theorem cp_x {c r i j : Nat} {z : Nat → Int} (hi : i < r) : CPx c r z i (c + j) = z (15 * i + 5 + j) := by unfold CPx phi; rw [if_neg (by omega), cm_s hi, show 15 * i + (5 + (c + j - c)) = 15 * i + 5 + j by omega]
theorem cp_k {c r e j : Nat} {z : Nat → Int} : CPx c r z (r + e) (c + j) = z (165 + 10 * e + j) := by unfold CPx phi; rw [if_neg (by omega), cm_k, if_neg (by omega), show 5 + (c + j - c) - 5 = j by omega]

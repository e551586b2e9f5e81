/-! ===== the reference: isStair ===== -/
theorem lead_eq {A : Mat} {h h' w : Nat} {l l' : Nat → Nat} {a : Nat} (e : Ech A h w l) (e' : Ech A h' w l') (h1 : a < h) (h2 : a < h') : l a = l' a := by
  have p := e.1 a h1
  have q := e'.1 a h2
  rcases Nat.lt_trichotomy (l a) (l' a) with z | z | z
  · exact absurd (q.2.2 _ z) p.2.1
  · exact z
  · exact absurd (p.2.2 _ z) q.2.1
theorem ff_lead {S : TSt} {n i jj h : Nat} {l : Nat → Nat} (hFF : FF (fun j => S.N n (5 * i + j)) (S.c n) jj) (hj : jj < S.c n) (e : Ech (TM (S.N n)) h (S.c n) l) (hi : i < h) : l i = jj := by
  have p := e.1 i hi
  rcases Nat.lt_trichotomy (l i) jj with z | z | z
  · exact absurd (hFF.2.1 _ z) p.2.1
  · exact z
  · exact absurd (p.2.2 _ z) (hFF.2.2 hj)
/-- the rows before i: h of them a STAIR, 0s behind -/
def IsI (S : TSt) (n i h : Nat) (l : Nat → Nat) (dg zf la : Int) : Prop := h ≤ i ∧ Stair (TM (S.N n)) h (S.c n) l ∧ (∀ a j, h ≤ a → a < i → j < S.c n → S.N n (5 * a + j) = 0) ∧ zf = (if h < i then 1 else 0) ∧ la = (if h = 0 then -1 else (l (h - 1) : Int)) ∧ (dg = 1 → (∀ a j, a < h → j < S.c n → a ≠ j → S.N n (5 * a + j) = 0) ∧ ChP (S.N n) h)
/-- what is asked -/
def IsP (S : TSt) (n : Nat) (dg : Int) : Prop := if dg = 1 then ∃ h l, DiP S n h l else ∃ h l, StP S n h l
theorem IsP.st {S : TSt} {n : Nat} {dg : Int} (h : IsP S n dg) : ∃ h l, StP S n h l ∧ (dg = 1 → DiP S n h l) := by
  unfold IsP at h
  split at h
  · obtain ⟨a, l, k⟩ := h; exact ⟨a, l, k.1, fun _ => k⟩
  · rename_i q
    obtain ⟨a, l, k⟩ := h; exact ⟨a, l, k, fun z => absurd z q⟩
theorem IsI.zero {S : TSt} {n i h : Nat} {l : Nat → Nat} {dg zf la : Int} (I : IsI S n i h l dg zf la) (hz : ∀ j, j < S.c n → S.N n (5 * i + j) = 0) : IsI S n (i + 1) h l dg 1 la := ⟨by have := I.1; omega, I.2.1, fun a j h1 h2 h3 => by
  by_cases e : a = i
  · rw [e]; exact hz j h3
  · exact I.2.2.1 a j h1 (by omega) h3, by have := I.1; rw [if_pos (by omega)], I.2.2.2.2.1, I.2.2.2.2.2⟩
theorem IsI.next {S : TSt} {n i jj : Nat} {l : Nat → Nat} {dg zf la : Int} (I : IsI S n i i l dg zf la) (hFF : FF (fun j => S.N n (5 * i + j)) (S.c n) jj) (hj : jj < S.c n) (hla : la < (jj : Int)) (hp : 0 ≤ S.N n (5 * i + jj)) (hab : ∀ k, k < i → 0 ≤ S.N n (5 * k + jj) ∧ S.N n (5 * k + jj) < S.N n (5 * i + jj)) (hd : dg = 1 → jj = i ∧ (0 < i → S.N n (5 * (i - 1) + (i - 1)) ∣ S.N n (5 * i + i)) ∧ ∀ k, jj < k → k < S.c n → S.N n (5 * i + k) = 0) : IsI S n (i + 1) (i + 1) (upF l i jj) dg 0 (jj : Int) := by
  obtain ⟨-, s, -, -, hl, hdg⟩ := I
  have hne : S.N n (5 * i + jj) ≠ 0 := hFF.2.2 hj
  have lo : ∀ a, a < i → upF l i jj a = l a := fun a ha => upF_ne _ _ (by omega)
  have li : upF l i jj i = jj := upF_self ..
  have hlt : ∀ a, a < i → l a < jj := fun a ha => by
    rw [if_neg (by omega)] at hl
    by_cases e : a = i - 1
    · rw [e]; omega
    · have := s.1.2 a (i - 1) (by omega) (by omega); omega
  refine ⟨Nat.le_refl _, ⟨⟨fun a ha => ?_, fun a b h1 h2 => ?_⟩, fun a ha => ?_, fun a b h1 h2 => ?_⟩, fun a j h1 h2 => absurd h1 (by omega), (if_neg (by omega)).symm, by rw [if_neg (by omega), show i + 1 - 1 = i by omega, li], fun hd1 => ⟨fun a j ha hj2 haj => ?_, fun k hk => ?_⟩⟩
  · by_cases e : a = i
    · rw [e, li]; exact ⟨hj, hne, fun j h3 => hFF.2.1 j h3⟩
    · rw [lo a (by omega)]; exact s.1.1 a (by omega)
  · by_cases e : b = i
    · rw [e, li, lo a (by omega)]; exact hlt a (by omega)
    · rw [lo a (by omega), lo b (by omega)]; exact s.1.2 a b h1 (by omega)
  · by_cases e : a = i
    · rw [e, li]; show 0 < S.N n (5 * i + jj); omega
    · rw [lo a (by omega)]; exact s.2.1 a (by omega)
  · by_cases e : b = i
    · rw [e, li]; exact hab a (by omega)
    · rw [lo b (by omega)]; exact s.2.2 a b h1 (by omega)
  · obtain ⟨d1, d2, d3⟩ := hd hd1
    by_cases e : a = i
    · rw [e]
      rcases Nat.lt_or_ge j jj with q | q
      · exact hFF.2.1 j q
      · exact d3 j (by omega) hj2
    · exact (hdg hd1).1 a j (by omega) hj2 haj
  · obtain ⟨d1, d2, d3⟩ := hd hd1
    by_cases e : k + 1 = i
    · have := d2 (by omega)
      rw [show i - 1 = k by omega] at this
      rw [e]; exact this
    · exact (hdg hd1).2 k (by omega)
theorem IsI.fin {S : TSt} {n h : Nat} {l : Nat → Nat} {dg zf la : Int} (I : IsI S n (S.r n) h l dg zf la) : IsP S n dg := by
  have st : StP S n h l := ⟨I.1, I.2.1, fun i j h1 h2 h3 => I.2.2.1 i j h1 h2 h3⟩
  unfold IsP
  split
  · rename_i q; exact ⟨h, l, st, (I.2.2.2.2.2 q).1, (I.2.2.2.2.2 q).2⟩
  · exact ⟨h, l, st⟩
/-- what a STAIR forces on a row that isn't 0 -/
theorem IsI.must {S : TSt} {n i h jj : Nat} {l : Nat → Nat} {dg zf la : Int} (I : IsI S n i h l dg zf la) (hi : i < S.r n) (hFF : FF (fun j => S.N n (5 * i + j)) (S.c n) jj) (hj : jj < S.c n) (hP : IsP S n dg) : h = i ∧ la < (jj : Int) ∧ 0 < S.N n (5 * i + jj) ∧ (∀ k, k < i → 0 ≤ S.N n (5 * k + jj) ∧ S.N n (5 * k + jj) < S.N n (5 * i + jj)) ∧ (dg = 1 → jj = i ∧ (0 < i → S.N n (5 * (i - 1) + (i - 1)) ∣ S.N n (5 * i + i)) ∧ ∀ k, jj < k → k < S.c n → S.N n (5 * i + k) = 0) := by
  obtain ⟨h', l', k, kd⟩ := hP.st
  have hne : S.N n (5 * i + jj) ≠ 0 := hFF.2.2 hj
  have hi' : i < h' := by
    rcases Nat.lt_or_ge i h' with q | q
    · exact q
    · exact absurd (k.2.2 i jj q hi hj) hne
  have hl' := ff_lead hFF hj k.2.1.1 hi'
  have hh : h = i := by
    rcases Nat.lt_or_ge h i with q | q
    · have p := k.2.1.1.1 h (by omega)
      exact absurd (I.2.2.1 h (l' h) (Nat.le_refl _) q p.1) p.2.1
    · have := I.1; omega
  have p := k.2.1.2.1 i hi'
  rw [hl'] at p
  refine ⟨hh, ?_, p, fun a ha => ?_, fun hd1 => ?_⟩
  · rw [I.2.2.2.2.1]
    split
    · omega
    · rename_i q
      have e1 := lead_eq I.2.1.1 k.2.1.1 (a := h - 1) (by omega) (by omega)
      have e2 := k.2.1.1.2 (h - 1) i (by omega) hi'
      rw [e1]; omega
  · have e2 := k.2.1.2.2 a i ha hi'
    rw [hl'] at e2
    exact e2
  · have dd := kd hd1
    have hji : jj = i := Classical.byContradiction (fun e => hne (dd.2.1 i jj hi' hj (fun z => e z.symm)))
    refine ⟨hji, fun h0 => ?_, fun b h1 h2 => dd.2.1 i b hi' h2 (by omega)⟩
    have e3 := dd.2.2 (i - 1) (by omega)
    rw [show i - 1 + 1 = i by omega] at e3
    exact e3

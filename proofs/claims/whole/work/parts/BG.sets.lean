/-! ===== sets of rows and of columns, as bits, and rising tuples; mathematics alone ===== -/
theorem is1 : ∀ a : Fin 5, ∀ m : Fin 6, (a : Nat) < m → 2 ^ (a : Nat) < 2 ^ (m : Nat) ∧ rkb (2 ^ (a : Nat)) 5 = 1 ∧ psb (2 ^ (a : Nat)) 0 = a := by decide +kernel
theorem is2 : ∀ a b : Fin 5, (a : Nat) < b → ∀ m : Fin 6, (b : Nat) < m → 2 ^ (a : Nat) + 2 ^ (b : Nat) < 2 ^ (m : Nat) ∧ rkb (2 ^ (a : Nat) + 2 ^ (b : Nat)) 5 = 2 ∧ psb (2 ^ (a : Nat) + 2 ^ (b : Nat)) 0 = a ∧ psb (2 ^ (a : Nat) + 2 ^ (b : Nat)) 1 = b := by decide +kernel
theorem is3 : ∀ a b c : Fin 5, (a : Nat) < b → (b : Nat) < c → ∀ m : Fin 6, (c : Nat) < m → 2 ^ (a : Nat) + 2 ^ (b : Nat) + 2 ^ (c : Nat) < 2 ^ (m : Nat) ∧ rkb (2 ^ (a : Nat) + 2 ^ (b : Nat) + 2 ^ (c : Nat)) 5 = 3 ∧ psb (2 ^ (a : Nat) + 2 ^ (b : Nat) + 2 ^ (c : Nat)) 0 = a ∧ psb (2 ^ (a : Nat) + 2 ^ (b : Nat) + 2 ^ (c : Nat)) 1 = b ∧ psb (2 ^ (a : Nat) + 2 ^ (b : Nat) + 2 ^ (c : Nat)) 2 = c := by decide +kernel
theorem is4 : ∀ a b c e : Fin 5, (a : Nat) < b → (b : Nat) < c → (c : Nat) < e → ∀ m : Fin 6, (e : Nat) < m → 2 ^ (a : Nat) + 2 ^ (b : Nat) + 2 ^ (c : Nat) + 2 ^ (e : Nat) < 2 ^ (m : Nat) ∧ rkb (2 ^ (a : Nat) + 2 ^ (b : Nat) + 2 ^ (c : Nat) + 2 ^ (e : Nat)) 5 = 4 ∧ psb (2 ^ (a : Nat) + 2 ^ (b : Nat) + 2 ^ (c : Nat) + 2 ^ (e : Nat)) 0 = a ∧ psb (2 ^ (a : Nat) + 2 ^ (b : Nat) + 2 ^ (c : Nat) + 2 ^ (e : Nat)) 1 = b ∧ psb (2 ^ (a : Nat) + 2 ^ (b : Nat) + 2 ^ (c : Nat) + 2 ^ (e : Nat)) 2 = c ∧ psb (2 ^ (a : Nat) + 2 ^ (b : Nat) + 2 ^ (c : Nat) + 2 ^ (e : Nat)) 3 = e := by decide +kernel
theorem bt21 : ∀ s : Fin 32, ∀ n : Fin 6, (s : Nat) < 2 ^ (n : Nat) → ∀ a : Fin 5, (a : Nat) < rkb s 5 → psb s a < n := by decide +kernel
theorem pw_32 {m : Nat} (hm : m ≤ 5) {s : Nat} (h : s < 2 ^ m) : s < 32 := by
  have : 2 ^ m ≤ 32 := (pw6 ⟨m, by omega⟩).2
  omega
/-- a rising tuple is a set -/
theorem inc_set {k m : Nat} (hk : k ≤ 5) (hm : m ≤ 5) {p : Nat → Nat} (hp : ∀ a, a < k → p a < m) (hi : ∀ a, a + 1 < k → p a < p (a + 1)) : ∃ s, s < 32 ∧ s < 2 ^ m ∧ rkb s 5 = k ∧ ∀ a, a < k → psb s a = p a := by
  have hk' : k = 0 ∨ k = 1 ∨ k = 2 ∨ k = 3 ∨ k = 4 ∨ k = 5 := by omega
  rcases hk' with rfl | rfl | rfl | rfl | rfl | rfl
  · exact ⟨0, by omega, by have : 1 ≤ 2 ^ m := (pw6 ⟨m, by omega⟩).1; omega, by decide, fun a ha => absurd ha (by omega)⟩
  · have h0 := hp 0 (by omega)
    obtain ⟨r1, r2, r3⟩ := is1 ⟨p 0, by omega⟩ ⟨m, by omega⟩ h0
    exact ⟨2 ^ p 0, pw_32 hm r1, r1, r2, fun a ha => by rw [show a = 0 by omega]; exact r3⟩
  · have h0 := hp 0 (by omega)
    have h1 := hp 1 (by omega)
    obtain ⟨r1, r2, r3, r4⟩ := is2 ⟨p 0, by omega⟩ ⟨p 1, by omega⟩ (hi 0 (by omega)) ⟨m, by omega⟩ h1
    refine ⟨2 ^ p 0 + 2 ^ p 1, pw_32 hm r1, r1, r2, fun a ha => ?_⟩
    rcases (by omega : a = 0 ∨ a = 1) with rfl | rfl
    · exact r3
    · exact r4
  · have h0 := hp 0 (by omega)
    have h1 := hp 1 (by omega)
    have h2 := hp 2 (by omega)
    obtain ⟨r1, r2, r3, r4, r5⟩ := is3 ⟨p 0, by omega⟩ ⟨p 1, by omega⟩ ⟨p 2, by omega⟩ (hi 0 (by omega)) (hi 1 (by omega)) ⟨m, by omega⟩ h2
    refine ⟨2 ^ p 0 + 2 ^ p 1 + 2 ^ p 2, pw_32 hm r1, r1, r2, fun a ha => ?_⟩
    rcases (by omega : a = 0 ∨ a = 1 ∨ a = 2) with rfl | rfl | rfl
    · exact r3
    · exact r4
    · exact r5
  · have h0 := hp 0 (by omega)
    have h1 := hp 1 (by omega)
    have h2 := hp 2 (by omega)
    have h3 := hp 3 (by omega)
    obtain ⟨r1, r2, r3, r4, r5, r6⟩ := is4 ⟨p 0, by omega⟩ ⟨p 1, by omega⟩ ⟨p 2, by omega⟩ ⟨p 3, by omega⟩ (hi 0 (by omega)) (hi 1 (by omega)) (hi 2 (by omega)) ⟨m, by omega⟩ h3
    refine ⟨2 ^ p 0 + 2 ^ p 1 + 2 ^ p 2 + 2 ^ p 3, pw_32 hm r1, r1, r2, fun a ha => ?_⟩
    rcases (by omega : a = 0 ∨ a = 1 ∨ a = 2 ∨ a = 3) with rfl | rfl | rfl | rfl
    · exact r3
    · exact r4
    · exact r5
    · exact r6
  · have hg := fun a ha => inc_ge hi a ha
    have h4 := hp 4 (by omega)
    have g4 := hg 4 (by omega)
    obtain rfl : m = 5 := by omega
    have hid := inc_id hi hp
    exact ⟨31, by omega, by omega, by decide, fun a ha => by rw [hid a ha]; exact (by decide : ∀ c : Fin 5, psb 31 c = c) ⟨a, ha⟩⟩
/-- a pair of sets that is asked for -/
def OkP (k r c p q : Nat) : Prop := p < 2 ^ r ∧ q < 2 ^ c ∧ rkb p 5 = k ∧ rkb q 5 = k
theorem dvt_sets {A : Mat} {k r c : Nat} {d : Int} (hk : k ≤ 5) (hr : r ≤ 5) (hc : c ≤ 5) : (∀ p q, p < 32 → q < 32 → OkP k r c p q → d ∣ det k (fun a b => A (psb p a) (psb q b))) ↔ DVT k A r c d := by
  constructor
  · intro h
    refine DVT.inc (fun p q hp hpi hq hqi => ?_)
    obtain ⟨s, s1, s2, s3, s4⟩ := inc_set hk hr hp hpi
    obtain ⟨u, u1, u2, u3, u4⟩ := inc_set hk hc hq hqi
    have := h s u s1 u1 ⟨s2, u2, s3, u3⟩
    rwa [det_congr (B := fun a b => A (p a) (q b)) (fun a b ha hb => by rw [s4 a ha, u4 b hb])] at this
  · rintro h p q p1 q1 ⟨o1, o2, o3, o4⟩
    exact h (fun a => psb p a) (fun b => psb q b) (fun a ha => bt21 ⟨p, p1⟩ ⟨r, by omega⟩ o1 ⟨a, by omega⟩ (show a < rkb p 5 by omega)) (fun b hb => bt21 ⟨q, q1⟩ ⟨c, by omega⟩ o2 ⟨b, by omega⟩ (show b < rkb q 5 by omega))
/-- greater minors are made of smaller ones -/
theorem dvt_up {A : Mat} {k r c : Nat} {d : Int} (h : DVT k A r c d) : DVT (k + 1) A r c d := by
  intro p q hp hq
  show d ∣ Sg (fun j => sgI j * A (p 0) (q j) * det k (fun i e => A (p (i + 1)) (q (sk j e)))) (k + 1)
  exact Sg_dvd (fun j hj => dvd_mr (h (fun i => p (i + 1)) (fun e => q (sk j e)) (fun a ha => hp _ (by omega)) (fun b hb => hq _ (by unfold sk; split <;> omega))))

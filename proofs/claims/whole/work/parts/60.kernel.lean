/-! ===== kernel ===== -/
/-- the multiples that make 0s of a table's rows -/
def KerP (N : Nat → Int) (r c : Nat) (x : Nat → Int) : Prop := ∀ j, j < c → Sg (fun i => x i * N (5 * i + j)) r = 0
/-- a sum from t on -/
theorem Sg_from {f : Nat → Int} {t : Nat} : ∀ {n : Nat}, (∀ i, i < t → f i = 0) → t ≤ n → Sg f n = Sg (fun i => f (t + i)) (n - t)
  | 0, h, ht => by
    obtain rfl : t = 0 := by omega
    rfl
  | n + 1, h, ht => by
    by_cases e : t = n + 1
    · subst e
      rw [Nat.sub_self]
      exact Sg_zero h
    · rw [show n + 1 - t = (n - t) + 1 by omega]
      simp only [Sg]
      rw [Sg_from (n := n) h (by omega), show t + (n - t) = n by omega]
theorem tu_unit {N : Nat → Int} {c r : Nat} {y : Nat → Int} {j : Nat} (hj : j < r) : Sg (fun i => y i * TU N c i (c + j)) r = y j := by
  rw [Sg_one hj (fun i hi hne => by
    show y i * (if c + j < c then _ else if c + j - c = i then 1 else 0) = 0
    rw [if_neg (by omega), if_neg (by omega), Int.mul_zero])]
  show y j * (if c + j < c then _ else if c + j - c = j then 1 else 0) = y j
  rw [if_neg (by omega), if_pos (by omega), Int.mul_one]
theorem tu_tab {N : Nat → Int} {c r : Nat} {y : Nat → Int} {j : Nat} (hj : j < c) : Sg (fun i => y i * TU N c i j) r = Sg (fun i => y i * N (5 * i + j)) r := Sg_congr (fun i _ => by
  show y i * (if j < c then _ else _) = _
  rw [if_pos hj])
/-- a row of the lattice of (T | 1): multiples, and behind it the multiples themselves -/
theorem tu_span {N : Nat → Int} {c r : Nat} {v : Nat → Int} (h : Span (TU N c) r (c + r) v) : ∀ j, j < c → v j = Sg (fun i => v (c + i) * N (5 * i + j)) r := by
  obtain ⟨y, hy⟩ := h
  have e : ∀ i, i < r → v (c + i) = y i := fun i hi => by rw [hy (c + i) (by omega), tu_unit hi]
  intro j hj
  rw [hy j (by omega), tu_tab hj]
  exact Sg_congr (fun i hi => by rw [e i hi])
theorem tu_mk {N : Nat → Int} {c r : Nat} {v : Nat → Int} (h : ∀ j, j < c → v j = Sg (fun i => v (c + i) * N (5 * i + j)) r) : Span (TU N c) r (c + r) v := by
  refine ⟨fun i => v (c + i), fun j hj => ?_⟩
  by_cases e : j < c
  · rw [tu_tab e]; exact h j e
  · obtain ⟨k, rfl⟩ : ∃ k, j = c + k := ⟨j - c, by omega⟩
    rw [tu_unit (show k < r by omega)]
theorem kern_of {A : Mat} {N : Nat → Int} {h c r t : Nat} {l : Nat → Nat} (hs : Stair A h (c + r) l) (hp : SpEq (TU N c) r A h (c + r)) (ht : t ≤ h ∧ (∀ i, i < t → l i < c) ∧ (t < h → c ≤ l t)) : Stair (fun i j => A (t + i) (c + j)) (h - t) r (fun i => l (t + i) - c) ∧ ∀ x, Span (fun i j => A (t + i) (c + j)) (h - t) r x ↔ KerP N r c x := by
  have hlc : ∀ i, t ≤ i → i < h → c ≤ l i := fun i h1 h2 => by
    rcases Nat.lt_or_eq_of_le h1 with h3 | h3
    · have := hs.1.2 t i h3 h2
      have := ht.2.2 (by omega)
      omega
    · rw [← h3]; exact ht.2.2 (by omega)
  refine ⟨⟨⟨fun i hi => ?_, fun i k hik hk => ?_⟩, fun i hi => ?_, fun i k hik hk => ?_⟩, fun x => ⟨fun hx j hj => ?_, fun hx => ?_⟩⟩
  · obtain ⟨h1, h2, h3⟩ := hs.1.1 (t + i) (by omega)
    have h4 := hlc (t + i) (by omega) (by omega)
    refine ⟨by show l (t + i) - c < r; omega, ?_, fun j hj => h3 _ (by have hj : j < l (t + i) - c := hj; omega)⟩
    show A (t + i) (c + (l (t + i) - c)) ≠ 0
    rw [show c + (l (t + i) - c) = l (t + i) by omega]; exact h2
  · have h1 := hs.1.2 (t + i) (t + k) (by omega) (by omega)
    have h4 := hlc (t + i) (by omega) (by omega)
    show l (t + i) - c < l (t + k) - c
    omega
  · have h4 := hlc (t + i) (by omega) (by omega)
    show 0 < A (t + i) (c + (l (t + i) - c))
    rw [show c + (l (t + i) - c) = l (t + i) by omega]; exact hs.2.1 _ (by omega)
  · have h4 := hlc (t + k) (by omega) (by omega)
    show 0 ≤ A (t + i) (c + (l (t + k) - c)) ∧ A (t + i) (c + (l (t + k) - c)) < A (t + k) (c + (l (t + k) - c))
    rw [show c + (l (t + k) - c) = l (t + k) by omega]
    exact hs.2.2 _ _ (by omega) (by omega)
  · obtain ⟨y, hy⟩ := hx
    have hv : Span A h (c + r) (fun j => Sg (fun i => y i * A (t + i) j) (h - t)) := by
      refine ⟨fun i => if i < t then 0 else y (i - t), fun j _ => ?_⟩
      have e : Sg (fun i => (if i < t then 0 else y (i - t)) * A i j) h = Sg (fun i => (if t + i < t then 0 else y (t + i - t)) * A (t + i) j) (h - t) := Sg_from (f := fun i => (if i < t then 0 else y (i - t)) * A i j) (fun i hi => by show (if i < t then 0 else y (i - t)) * A i j = 0; rw [if_pos hi, Int.zero_mul]) ht.1
      refine Eq.trans ?_ e.symm
      exact Sg_congr (fun i _ => by rw [if_neg (show ¬ t + i < t by omega), show t + i - t = i by omega])
    have h1 := tu_span ((hp _).mpr hv) j hj
    have h2 : Sg (fun i => y i * A (t + i) j) (h - t) = 0 := Sg_zero (fun i hi => by
      rw [(hs.1.1 (t + i) (by omega)).2.2 j (by have := hlc (t + i) (by omega) (by omega); omega), Int.mul_zero])
    have h1 : Sg (fun i => y i * A (t + i) j) (h - t) = Sg (fun i => Sg (fun k => y k * A (t + k) (c + i)) (h - t) * N (5 * i + j)) r := h1
    rw [h2] at h1
    rw [h1]
    exact Sg_congr (fun i hi => congrArg (· * N (5 * i + j)) (hy i hi))
  · have hv : Span A h (c + r) (fun j => if j < c then 0 else x (j - c)) := (hp _).mp (tu_mk (fun j hj => by
      show (if j < c then 0 else x (j - c)) = Sg (fun i => (if c + i < c then 0 else x (c + i - c)) * N (5 * i + j)) r
      rw [if_pos hj, ← hx j hj]
      exact Sg_congr (fun i _ => by rw [if_neg (show ¬ c + i < c by omega), show c + i - c = i by omega])))
    obtain ⟨y, hy⟩ := hv
    have hc0 := ech_coef hs.1 hy t ht.1 (fun k hk => if_pos (ht.2.1 k hk))
    refine ⟨fun i => y (t + i), fun j hj => ?_⟩
    have h1 : (if c + j < c then 0 else x (c + j - c)) = Sg (fun i => y i * A i (c + j)) h := hy (c + j) (by omega)
    rw [if_neg (show ¬ c + j < c by omega), show c + j - c = j by omega] at h1
    have e : Sg (fun i => y i * A i (c + j)) h = Sg (fun i => y (t + i) * A (t + i) (c + j)) (h - t) := Sg_from (f := fun i => y i * A i (c + j)) (fun i hi => by show y i * A i (c + j) = 0; rw [hc0 i hi, Int.zero_mul]) ht.1
    exact h1.trans e
abbrev mX5_kernel : MI := (yX5_kernel, cX5_kernel, 3, (some FieldType.int), noX)
theorem dX5_kernel_0 : decode cX5_kernel 0 = .ok (.aload_n 0, 1) := by decide +kernel
theorem dX5_kernel_1 : decode cX5_kernel 1 = .ok (.iload_n 1, 1) := by decide +kernel
theorem dX5_kernel_2 : decode cX5_kernel 2 = .ok (.invokevirtual 72, 3) := by decide +kernel
theorem dX5_kernel_5 : decode cX5_kernel 5 = .ok (.astore_n 2, 1) := by decide +kernel
theorem dX5_kernel_6 : decode cX5_kernel 6 = .ok (.aload_n 2, 1) := by decide +kernel
theorem dX5_kernel_7 : decode cX5_kernel 7 = .ok (.ifnonnull 5, 3) := by decide +kernel
theorem dX5_kernel_10 : decode cX5_kernel 10 = .ok (.iconst (-1), 1) := by decide +kernel
theorem dX5_kernel_11 : decode cX5_kernel 11 = .ok (.ireturn, 1) := by decide +kernel
theorem dX5_kernel_12 : decode cX5_kernel 12 = .ok (.aload_n 0, 1) := by decide +kernel
theorem dX5_kernel_13 : decode cX5_kernel 13 = .ok (.getfield 35, 3) := by decide +kernel
theorem dX5_kernel_16 : decode cX5_kernel 16 = .ok (.aload_n 2, 1) := by decide +kernel
theorem dX5_kernel_17 : decode cX5_kernel 17 = .ok (.invokevirtual 175, 3) := by decide +kernel
theorem dX5_kernel_20 : decode cX5_kernel 20 = .ok (.aload_n 0, 1) := by decide +kernel
theorem dX5_kernel_21 : decode cX5_kernel 21 = .ok (.aload_n 0, 1) := by decide +kernel
theorem dX5_kernel_22 : decode cX5_kernel 22 = .ok (.getfield 35, 3) := by decide +kernel
theorem dX5_kernel_25 : decode cX5_kernel 25 = .ok (.aload_n 0, 1) := by decide +kernel
theorem dX5_kernel_26 : decode cX5_kernel 26 = .ok (.getfield 35, 3) := by decide +kernel
theorem dX5_kernel_29 : decode cX5_kernel 29 = .ok (.aload_n 2, 1) := by decide +kernel
theorem dX5_kernel_30 : decode cX5_kernel 30 = .ok (.getfield 79, 3) := by decide +kernel
theorem dX5_kernel_33 : decode cX5_kernel 33 = .ok (.invokevirtual 178, 3) := by decide +kernel
theorem dX5_kernel_36 : decode cX5_kernel 36 = .ok (.aload_n 2, 1) := by decide +kernel
theorem dX5_kernel_37 : decode cX5_kernel 37 = .ok (.getfield 79, 3) := by decide +kernel
theorem dX5_kernel_40 : decode cX5_kernel 40 = .ok (.invokevirtual 163, 3) := by decide +kernel
theorem dX5_kernel_43 : decode cX5_kernel 43 = .ok (.ireturn, 1) := by decide +kernel
theorem c_kernel {g : GX} {b : Nat} {X : Nat → Prop} {V : AH} {sz : Nat} {Z : Nat → Int} {S : TSt} {A : ASt} (d : Nat) {t : Int} {P L : Nat → Nat} (hw0 : WG g (wsB b) (SAB b X) V sz Z P L) (h : CX g b X V Z S A) (ht : R32 t) : AMet g mX5_kernel (d + 8) [.ref b, .int (iZ t)] V sz (CE g b X V sz L (fun q S' A' => S' = S ∧ ((∃ (n h1 : Nat) (l1 : Nat → Nat) (B : Mat), n < 12 ∧ t = (n : Int) ∧ 0 < S.r n ∧ Stair B h1 (S.r n) l1 ∧ (∀ x, Span B h1 (S.r n) x ↔ KerP (S.N n) (S.r n) (S.c n) x) ∧ some (.int (iZ h1)) = q ∧ AIs A' h1 (S.r n) B) ∨ ((∀ n : Nat, n < 12 → t = (n : Int) → S.r n = 0) ∧ some (.int (iZ (-1))) = q ∧ A' = A)))) := by
  obtain ⟨⟨hb, hb1⟩, hTb, hOk, -⟩ := id h
  obtain ⟨v, hv⟩ := FindV.ex S b t
  rcases hv with ⟨n, hn, rfl, hr, rfl⟩ | ⟨hno, rfl⟩
  · obtain ⟨hr5, hc5, -⟩ := hOk n hn
    obtain ⟨h0, w0, ld0, ρ0, hG0⟩ := h.2.2.2.2.2.2.1
    have hgd0 : V (b + 159) = _ := hG0.1
    refine AMet.of rfl rfl (Nat.le_of_ble_eq_true rfl) ?_
    show AW g mX5_kernel (d + 8) 0 [(0, .ref b), (1, .int (iZ n))] [] V sz _
    refine aw_aload_n dX5_kernel_0 (by rfl) (Or.inr ⟨_, rfl⟩) ?_
    refine aw_iload_n dX5_kernel_1 (by rfl) ?_
    refine aw_callv vX5_72 dX5_kernel_2 hb (t_find (d + 6) h ht (Or.inl ⟨n, hn, rfl, hr, rfl⟩)) (by rfl) (by rfl) (by omega) (Nat.le_of_ble_eq_true rfl) ?_
    rintro _ _ _ _ _ ⟨rfl, rfl, rfl, rfl, rfl⟩ -
    refine q0 ?_
    refine aw_astore_n dX5_kernel_5 (by decide) (Or.inr ⟨_, rfl⟩) ?_
    refine aw_aload_n dX5_kernel_6 (by rfl) (Or.inr ⟨_, rfl⟩) ?_
    refine aw_ifnonnull_r (tgt := 12) dX5_kernel_7 (by decide) ?_
    refine aw_aload_n dX5_kernel_12 (by rfl) (Or.inr ⟨_, rfl⟩) ?_
    refine aw_get fX5_35 dX5_kernel_13 hb (by rfl) ?_
    refine aw_aload_n dX5_kernel_16 (by rfl) (Or.inr ⟨_, rfl⟩) ?_
    refine aw_callv vX5_175 dX5_kernel_17 hgd0 (c_reachM d hw0 h hn) (by rfl) (by rfl) (by omega) (Nat.le_of_ble_eq_true rfl) ?_
    rintro _ V1 sz1 mc1 ms1 ⟨Z1, P1, L1, ⟨rfl, hcx1, ⟨h1, ld1, l1, ρ1, hg1⟩, -⟩, hs1⟩ -
    refine WE.stp hs1 ?_
    obtain ⟨⟨hb1', hb11⟩, -, -, -, ⟨ldT, ρT, hGT, -⟩, hAo, -⟩ := id hcx1
    have hle := hg1.2.2.1.1.le_w
    obtain ⟨hT11, -⟩ := hcx1.2.1 n hn
    have hgd1 : V1 (b + 159) = _ := hg1.1.1
    obtain ⟨tt, ht3⟩ := rb_ex l1 (S.c n) h1
    have hkn := kern_of hg1.2.2.1 hg1.2.2.2 ht3
    have htt := ht3.1
    refine aw_aload_n dX5_kernel_20 (by rfl) (Or.inr ⟨_, rfl⟩) ?_
    refine aw_aload_n dX5_kernel_21 (by rfl) (Or.inr ⟨_, rfl⟩) ?_
    refine aw_get fX5_35 dX5_kernel_22 hb1' (by rfl) ?_
    refine aw_aload_n dX5_kernel_25 (by rfl) (Or.inr ⟨_, rfl⟩) ?_
    refine aw_get fX5_35 dX5_kernel_26 hb1' (by rfl) ?_
    refine aw_aload_n dX5_kernel_29 (by rfl) (Or.inr ⟨_, rfl⟩) ?_
    refine aw_get fX5_79 dX5_kernel_30 hT11 (by rfl) ?_
    refine aw_callv vX5_178 dX5_kernel_33 hgd1 (t_rowsLeadingBefore g (d + 7) (t := tt) (col := S.c n) hg1.1 ⟨show h1 ≤ 11 by omega, show (11 : Nat) < 100 by omega, by omega, by omega⟩ hg1.2.1 (fun i hi => (hg1.2.2.1.1.1 i hi).1) ht3) (by rfl) (by rfl) (by omega) (Nat.le_of_ble_eq_true rfl) ?_
    rintro _ _ _ _ _ ⟨rfl, rfl, rfl, rfl, rfl⟩ -
    refine q0 ?_
    refine aw_aload_n dX5_kernel_36 (by rfl) (Or.inr ⟨_, rfl⟩) ?_
    refine aw_get fX5_79 dX5_kernel_37 hT11 (by rfl) ?_
    refine aw_callv vX5_163 dX5_kernel_40 hb1' (t_tellRows (d + 3) (fr := tt) (fc := S.c n) hcx1 hGT hg1.1 (by omega) (hg1.sm (by omega) (hOk.tu hn)).2 hAo hs1.1) (by rfl) (by rfl) (by omega) (Nat.le_of_ble_eq_true rfl) ?_
    rintro _ V2 sz2 mc2 ms2 ⟨Z2, P2, L2, ⟨S2, A2, hcx2, e2, rfl, hAI⟩, hs2⟩ -
    refine WE.stp hs2 ?_
    rw [e2] at hcx2
    refine aw_iret dX5_kernel_43 rfl (by rfl) ?_
    exact WE.ret hs2.1 ⟨_, _, hcx2, rfl, Or.inl ⟨n, h1 - tt, _, _, hn, rfl, hr, hkn.1, hkn.2, rfl, by have := hAI; rw [show S.c n + S.r n - S.c n = S.r n by omega] at this; exact this⟩⟩
  · skip
    refine AMet.of rfl rfl (Nat.le_of_ble_eq_true rfl) ?_
    show AW g mX5_kernel (d + 8) 0 [(0, .ref b), (1, .int (iZ t))] [] V sz _
    refine aw_aload_n dX5_kernel_0 (by rfl) (Or.inr ⟨_, rfl⟩) ?_
    refine aw_iload_n dX5_kernel_1 (by rfl) ?_
    refine aw_callv vX5_72 dX5_kernel_2 hb (t_find (d + 6) h ht (Or.inr ⟨hno, rfl⟩)) (by rfl) (by rfl) (by omega) (Nat.le_of_ble_eq_true rfl) ?_
    rintro _ _ _ _ _ ⟨rfl, rfl, rfl, rfl, rfl⟩ -
    refine q0 ?_
    refine aw_astore_n dX5_kernel_5 (by decide) (Or.inl rfl) ?_
    refine aw_aload_n dX5_kernel_6 (by rfl) (Or.inl rfl) ?_
    refine aw_ifnonnull_n dX5_kernel_7 ?_
    refine aw_iconstZ dX5_kernel_10 ?_
    refine aw_iret dX5_kernel_11 rfl (by rfl) ?_
    exact WE.ret hw0 ⟨S, A, h, rfl, Or.inr ⟨hno, rfl, rfl⟩⟩

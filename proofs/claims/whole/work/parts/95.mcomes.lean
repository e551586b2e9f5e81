/-! ===== the reference: comesIn ===== -/
theorem pw_base {a b : Int} (ha : 0 ≤ a) (hab : a ≤ b) : ∀ n : Nat, a ^ n ≤ b ^ n
  | 0 => by simp
  | n + 1 => by
    rw [Int.pow_succ, Int.pow_succ]
    exact Int.mul_le_mul (pw_base ha hab n) hab ha (Int.pow_nonneg (by omega))
def CSt (g : GX) (mo : Nat) (V : AH) (r κ : Nat) (ar ac : Int) (l lk : Nat → Nat) (zs : Nat → Int) : Prop := ∃ RW RK : Nat → Int, V mo = some (moO mo r κ ar ac) ∧ V (mo + 6) = some (aIz g 11 RW) ∧ V (mo + 7) = some (aIz g 11 RK) ∧ (∀ i, i < r → RW i = (l i : Int)) ∧ (∀ i, i < κ → RK i = (lk i : Int)) ∧ MN g mo V zs ∧ ∀ i, i < r → l i < 5
def InC : Nat → Prop := fun q => q < 265 ∨ (415 ≤ q ∧ q ≤ 418)
def BgT (X M K : Int) : Int := (3 * (1024 * X * M) * K) ^ 10 * K * (1 + K) ^ 10
theorem bgt {X M K : Int} (hX : 1 ≤ X) (hM : 1 ≤ M) (hK : 1 ≤ K) : 1 ≤ 1024 * X * M ∧ 1 ≤ 3 * (1024 * X * M) * K ∧ (1024 * X * M) * K ≤ BgT X M K ∧ (∀ i, i ≤ 10 → (3 * (1024 * X * M) * K) ^ i * K ≤ BgT X M K) ∧ ∀ i, i ≤ 10 → (3 * (1024 * X * M) * K) ^ 10 * K * (1 + K) ^ i ≤ BgT X M K := by
  have h1 : 1 * 1 ≤ X * M := Int.mul_le_mul hX hM (by omega) (by omega)
  have h2 : 1 ≤ 1024 * X * M := by rw [Int.mul_assoc]; omega
  unfold BgT
  generalize 1024 * X * M = Y at *
  have h3 : 1 * 1 ≤ 3 * Y * K := Int.mul_le_mul (by omega) hK (by omega) (by omega)
  have h4 : Y * K ≤ 3 * Y * K := Int.mul_le_mul_of_nonneg_right (by omega) (by omega)
  have h5 := pw1 (show 1 ≤ 3 * Y * K by omega) 10
  have h6 := pw1 (show 1 ≤ 1 + K by omega) 10
  have h7 : (3 * Y * K) ^ 1 ≤ (3 * Y * K) ^ 10 := pw_le (by omega) (by omega)
  rw [show (3 * Y * K) ^ 1 = 3 * Y * K by rw [Int.pow_succ, Int.pow_zero, Int.one_mul]] at h7
  have h8 : (3 * Y * K) ^ 10 * 1 ≤ (3 * Y * K) ^ 10 * K := Int.mul_le_mul_of_nonneg_left hK (by omega)
  have h9 : (3 * Y * K) ^ 10 * K * 1 ≤ (3 * Y * K) ^ 10 * K * (1 + K) ^ 10 := Int.mul_le_mul_of_nonneg_left h6 (by omega)
  refine ⟨h2, by omega, by omega, fun i hi => ?_, fun i hi => ?_⟩
  · have a1 : (3 * Y * K) ^ i * K ≤ (3 * Y * K) ^ 10 * K := Int.mul_le_mul_of_nonneg_right (pw_le (by omega) hi) (by omega)
    omega
  · exact Int.mul_le_mul_of_nonneg_left (pw_le (by omega) hi) (by omega)
/-- the stair's rows are reduced by the kernel's -/
def KRI (z5 z : Nat → Int) (r κ : Nat) (lk : Nat → Nat) (U K : Int) (c k : Nat) : Prop :=
  (∀ q, ¬ q < 15 * r → ¬ (415 ≤ q ∧ q ≤ 418) → z q = z5 q) ∧ (∀ i j, i < r → j < 5 → z (15 * i + j) = z5 (15 * i + j)) ∧
  (∀ i e, i < r → e < κ → (e < c ∨ (e = c ∧ i < k)) → 0 ≤ z (15 * i + 5 + lk e) ∧ z (15 * i + 5 + lk e) < z5 (165 + 10 * e + lk e)) ∧
  (∀ i t, i < r → t < 15 → ab (z (15 * i + t)) ≤ U * (1 + K) ^ (if i < k then c + 1 else c)) ∧ SpEq (CMx r z5) (r + κ) (CMx r z) (r + κ) 15
section KRs
variable {z5 z z' : Nat → Int} {r κ : Nat} {lk : Nat → Nat} {U K : Int} {c k : Nat}
theorem KRI.zero (hU : ∀ i t, i < r → t < 15 → ab (z5 (15 * i + t)) ≤ U) : KRI z5 z5 r κ lk U K 0 0 := ⟨fun _ _ _ => rfl, fun _ _ _ _ => rfl, fun i e _ _ h => absurd h (by omega), fun i t hi ht => by rw [if_neg (by omega), Int.pow_zero, Int.mul_one]; exact hU i t hi ht, SpEq.rf⟩
theorem KRI.out (q : KRI z5 z r κ lk U K c r) : KRI z5 z r κ lk U K (c + 1) 0 := by
  obtain ⟨q1, q2, q3, q4, q5⟩ := q
  exact ⟨q1, q2, fun i e hi he h => q3 i e hi he (by omega), fun i t hi ht => by rw [if_neg (by omega)]; have := q4 i t hi ht; rw [if_pos hi] at this; exact this, q5⟩
theorem KRI.bd (hU : 1 ≤ U) (hK : 1 ≤ K) (hst : Stair (BMx 165 10 z5) κ 10 lk) (hkb : ∀ e t, e < κ → t < 10 → ab (z5 (165 + 10 * e + t)) ≤ K) (hr : r ≤ 10) (q : KRI z5 z r κ lk U K c k) (hk : k < r) (hc : c < κ) {t : Nat} (ht : t < 10) : ab (z (15 * k + 5 + lk c) / z (165 + 10 * c + lk c) * z (165 + 10 * c + t)) ≤ U * (1 + K) ^ (c + 1) ∧ ab (z (15 * k + 5 + t) - z (15 * k + 5 + lk c) / z (165 + 10 * c + lk c) * z (165 + 10 * c + t)) ≤ U * (1 + K) ^ (c + 1) := by
  obtain ⟨q1, q2, q3, q4, q5⟩ := q
  have hl := (hst.1.1 c hc).1
  have hκ : κ ≤ 10 := hst.1.le_w
  have hp : 0 < z5 (165 + 10 * c + lk c) := hst.2.1 c hc
  rw [q1 (165 + 10 * c + lk c) (by omega) (by omega), q1 (165 + 10 * c + t) (by omega) (by omega)]
  have a1 := q4 k (5 + lk c) hk (by omega)
  have a2 := q4 k (5 + t) hk (by omega)
  rw [if_neg (by omega), ← Nat.add_assoc] at a1 a2
  have a3 := hkb c t hc ht
  have a4 : ab (z (15 * k + 5 + lk c) / z5 (165 + 10 * c + lk c)) ≤ ab (z (15 * k + 5 + lk c)) := by
    have := fl_abs (a := z (15 * k + 5 + lk c)) hp
    unfold ab; omega
  have a5 := pw1 (show 1 ≤ 1 + K by omega) c
  have a6 : 1 * 1 ≤ U * (1 + K) ^ c := Int.mul_le_mul hU a5 (by omega) (by omega)
  have a7 : U * (1 + K) ^ (c + 1) = U * (1 + K) ^ c + U * (1 + K) ^ c * K := by
    rw [Int.pow_succ, Int.mul_add, Int.mul_one, Int.mul_add, Int.mul_assoc]
  rw [a7]
  generalize U * (1 + K) ^ c = W at *
  have b1 : ab (z (15 * k + 5 + lk c) / z5 (165 + 10 * c + lk c)) * ab (z5 (165 + 10 * c + t)) ≤ W * K := Int.mul_le_mul (Int.le_trans a4 a1) a3 (ab0 _) (by omega)
  have b2 := ab_sub (z (15 * k + 5 + t)) (z (15 * k + 5 + lk c) / z5 (165 + 10 * c + lk c) * z5 (165 + 10 * c + t))
  rw [ab_mul] at b2 ⊢
  exact ⟨by omega, by omega⟩
theorem KRI.step (hU : 1 ≤ U) (hK : 1 ≤ K) (hst : Stair (BMx 165 10 z5) κ 10 lk) (hkb : ∀ e t, e < κ → t < 10 → ab (z5 (165 + 10 * e + t)) ≤ K) (hr : r ≤ 10) (q : KRI z5 z r κ lk U K c k) (hk : k < r) (hc : c < κ) (h1 : ∀ x, ¬ (415 ≤ x ∧ x ≤ 418) → ¬ (15 * k + 5 ≤ x ∧ x < 15 * k + 5 + 10) → z' x = z x) (h2 : ∀ t, t < 10 → z' (15 * k + 5 + t) = z (15 * k + 5 + t) - z (15 * k + 5 + lk c) / z (165 + 10 * c + lk c) * z (165 + 10 * c + t)) : KRI z5 z' r κ lk U K c (k + 1) := by
  have hb := fun t ht => (KRI.bd hU hK hst hkb hr q hk hc (t := t) ht).2
  obtain ⟨q1, q2, q3, q4, q5⟩ := q
  have hl := (hst.1.1 c hc).1
  have hp : 0 < z5 (165 + 10 * c + lk c) := hst.2.1 c hc
  have ek : ∀ e t, z (165 + 10 * e + t) = z5 (165 + 10 * e + t) ∨ ¬ (165 + 10 * e + t < 415) := fun e t => by
    by_cases x : 165 + 10 * e + t < 415
    · exact Or.inl (q1 _ (by omega) (by omega))
    · exact Or.inr x
  have hκ : κ ≤ 10 := hst.1.le_w
  refine ⟨fun x hx hy => ?_, fun i j hi hj => ?_, fun i e hi he h => ?_, fun i t hi ht => ?_, q5.tr (SpEq.op (i := k) (k := r + c) (q := z (15 * k + 5 + lk c) / z (165 + 10 * c + lk c)) (by omega) (by omega) (by omega) (fun i hi hne j hj => ?_) (fun j hj => ?_))⟩
  · rw [h1 x hy (by omega)]; exact q1 x hx hy
  · rw [h1 _ (by omega) (by omega)]; exact q2 i j hi hj
  · have hle := (hst.1.1 e he).1
    by_cases e1 : i = k
    · subst e1
      rw [h2 _ hle]
      by_cases e2 : e = c
      · subst e2
        rw [q1 (165 + 10 * e + lk e) (by omega) (by omega)]
        have a1 := Int.emod_add_mul_ediv (z (15 * i + 5 + lk e)) (z5 (165 + 10 * e + lk e))
        have a2 := Int.emod_nonneg (z (15 * i + 5 + lk e)) (show z5 (165 + 10 * e + lk e) ≠ 0 by omega)
        have a3 := Int.emod_lt_of_pos (z (15 * i + 5 + lk e)) hp
        rw [Int.mul_comm (z5 (165 + 10 * e + lk e))] at a1
        exact ⟨by omega, by omega⟩
      · have a1 : z (165 + 10 * c + lk e) = 0 := by
          rw [q1 _ (by omega) (by omega)]
          exact (hst.1.1 c hc).2.2 (lk e) (hst.1.2 e c (by omega) hc)
        rw [a1, Int.mul_zero, Int.sub_zero]
        exact q3 i e hi he (Or.inl (by omega))
    · rw [h1 _ (by omega) (by omega)]
      exact q3 i e hi he (by omega)
  · by_cases e1 : i = k
    · subst e1
      rw [if_pos (by omega)]
      by_cases e2 : t < 5
      · rw [h1 _ (by omega) (by omega)]
        have a1 := q4 i t hi ht
        rw [if_neg (by omega)] at a1
        have a2 : U * (1 + K) ^ c ≤ U * (1 + K) ^ (c + 1) := Int.mul_le_mul_of_nonneg_left (pw_le (by omega) (by omega)) (by omega)
        omega
      · have := hb (t - 5) (by omega)
        rw [← h2 (t - 5) (by omega), show 15 * i + 5 + (t - 5) = 15 * i + t by omega] at this
        exact this
    · rw [h1 _ (by omega) (by omega)]
      have := q4 i t hi ht
      by_cases e2 : i < k
      · rw [if_pos e2] at this; rw [if_pos (by omega)]; exact this
      · rw [if_neg e2] at this; rw [if_neg (by omega)]; exact this
  · by_cases e1 : i < r
    · rw [cm_s e1, cm_s e1, h1 _ (by omega) (by omega)]
    · obtain ⟨e, rfl⟩ : ∃ e, i = r + e := ⟨i - r, by omega⟩
      rw [cm_k, cm_k]
      split
      · rfl
      · rw [h1 _ (by omega) (by omega)]
  · rw [cm_s hk, cm_s hk, cm_k]
    by_cases e2 : j < 5
    · rw [if_pos e2, h1 _ (by omega) (by omega)]; omega
    · rw [if_neg e2, show 15 * k + j = 15 * k + 5 + (j - 5) by omega]
      exact h2 (j - 5) (by omega)
end KRs
theorem Stair.cong5 {A A' : Mat} {r w : Nat} {l : Nat → Nat} (s : Stair A r w l) (hl : ∀ i, i < r → l i < 5) (h : ∀ i j, i < r → j < 5 → A' i j = A i j) : Stair A' r w l := by
  refine ⟨⟨fun i hi => ?_, s.1.2⟩, fun i hi => ?_, fun i k h1 h2 => ?_⟩
  · obtain ⟨a1, a2, a3⟩ := s.1.1 i hi
    have := hl i hi
    exact ⟨a1, by rw [h i _ hi this]; exact a2, fun j hj => by rw [h i j hi (by omega)]; exact a3 j hj⟩
  · rw [h i _ hi (hl i hi)]; exact s.2.1 i hi
  · rw [h i _ (by omega) (hl k h2), h k _ h2 (hl k h2)]; exact s.2.2 i k h1 h2
abbrev mX6_comesIn : MI := (yX6_comesIn, cX6_comesIn, 3, none, noX)
theorem dX6_comesIn_0 : decode cX6_comesIn 0 = .ok (.aload_n 0, 1) := by decide +kernel
theorem dX6_comesIn_1 : decode cX6_comesIn 1 = .ok (.iconst 0, 1) := by decide +kernel
theorem dX6_comesIn_2 : decode cX6_comesIn 2 = .ok (.bipush 15, 2) := by decide +kernel
theorem dX6_comesIn_4 : decode cX6_comesIn 4 = .ok (.bipush 15, 2) := by decide +kernel
theorem dX6_comesIn_6 : decode cX6_comesIn 6 = .ok (.iconst 5, 1) := by decide +kernel
theorem dX6_comesIn_7 : decode cX6_comesIn 7 = .ok (.aload_n 0, 1) := by decide +kernel
theorem dX6_comesIn_8 : decode cX6_comesIn 8 = .ok (.getfield 27, 3) := by decide +kernel
theorem dX6_comesIn_11 : decode cX6_comesIn 11 = .ok (.aload_n 0, 1) := by decide +kernel
theorem dX6_comesIn_12 : decode cX6_comesIn 12 = .ok (.getfield 117, 3) := by decide +kernel
theorem dX6_comesIn_15 : decode cX6_comesIn 15 = .ok (.invokevirtual 120, 3) := by decide +kernel
theorem dX6_comesIn_18 : decode cX6_comesIn 18 = .ok (.ifCond .eq 16, 3) := by decide +kernel
theorem dX6_comesIn_21 : decode cX6_comesIn 21 = .ok (.aload_n 0, 1) := by decide +kernel
theorem dX6_comesIn_22 : decode cX6_comesIn 22 = .ok (.dup, 1) := by decide +kernel
theorem dX6_comesIn_23 : decode cX6_comesIn 23 = .ok (.getfield 117, 3) := by decide +kernel
theorem dX6_comesIn_26 : decode cX6_comesIn 26 = .ok (.iconst 1, 1) := by decide +kernel
theorem dX6_comesIn_27 : decode cX6_comesIn 27 = .ok (.iadd, 1) := by decide +kernel
theorem dX6_comesIn_28 : decode cX6_comesIn 28 = .ok (.putfield 117, 3) := by decide +kernel
theorem dX6_comesIn_31 : decode cX6_comesIn 31 = .ok (.goto 7, 3) := by decide +kernel
theorem dX6_comesIn_34 : decode cX6_comesIn 34 = .ok (.aload_n 0, 1) := by decide +kernel
theorem dX6_comesIn_35 : decode cX6_comesIn 35 = .ok (.invokevirtual 124, 3) := by decide +kernel
theorem dX6_comesIn_38 : decode cX6_comesIn 38 = .ok (.aload_n 0, 1) := by decide +kernel
theorem dX6_comesIn_39 : decode cX6_comesIn 39 = .ok (.iconst 0, 1) := by decide +kernel
theorem dX6_comesIn_40 : decode cX6_comesIn 40 = .ok (.bipush 15, 2) := by decide +kernel
theorem dX6_comesIn_42 : decode cX6_comesIn 42 = .ok (.bipush 15, 2) := by decide +kernel
theorem dX6_comesIn_44 : decode cX6_comesIn 44 = .ok (.aload_n 0, 1) := by decide +kernel
theorem dX6_comesIn_45 : decode cX6_comesIn 45 = .ok (.getfield 27, 3) := by decide +kernel
theorem dX6_comesIn_48 : decode cX6_comesIn 48 = .ok (.aload_n 0, 1) := by decide +kernel
theorem dX6_comesIn_49 : decode cX6_comesIn 49 = .ok (.getfield 117, 3) := by decide +kernel
theorem dX6_comesIn_52 : decode cX6_comesIn 52 = .ok (.invokevirtual 127, 3) := by decide +kernel
theorem dX6_comesIn_55 : decode cX6_comesIn 55 = .ok (.iconst 0, 1) := by decide +kernel
theorem dX6_comesIn_56 : decode cX6_comesIn 56 = .ok (.istore_n 1, 1) := by decide +kernel
theorem dX6_comesIn_57 : decode cX6_comesIn 57 = .ok (.iload_n 1, 1) := by decide +kernel
theorem dX6_comesIn_58 : decode cX6_comesIn 58 = .ok (.aload_n 0, 1) := by decide +kernel
theorem dX6_comesIn_59 : decode cX6_comesIn 59 = .ok (.getfield 131, 3) := by decide +kernel
theorem dX6_comesIn_62 : decode cX6_comesIn 62 = .ok (.if_icmp .ge 84, 3) := by decide +kernel
theorem dX6_comesIn_65 : decode cX6_comesIn 65 = .ok (.iconst 0, 1) := by decide +kernel
theorem dX6_comesIn_66 : decode cX6_comesIn 66 = .ok (.istore_n 2, 1) := by decide +kernel
theorem dX6_comesIn_67 : decode cX6_comesIn 67 = .ok (.iload_n 2, 1) := by decide +kernel
theorem dX6_comesIn_68 : decode cX6_comesIn 68 = .ok (.aload_n 0, 1) := by decide +kernel
theorem dX6_comesIn_69 : decode cX6_comesIn 69 = .ok (.getfield 117, 3) := by decide +kernel
theorem dX6_comesIn_72 : decode cX6_comesIn 72 = .ok (.if_icmp .ge 68, 3) := by decide +kernel
theorem dX6_comesIn_75 : decode cX6_comesIn 75 = .ok (.aload_n 0, 1) := by decide +kernel
theorem dX6_comesIn_76 : decode cX6_comesIn 76 = .ok (.bipush 15, 2) := by decide +kernel
theorem dX6_comesIn_78 : decode cX6_comesIn 78 = .ok (.iload_n 2, 1) := by decide +kernel
theorem dX6_comesIn_79 : decode cX6_comesIn 79 = .ok (.imul, 1) := by decide +kernel
theorem dX6_comesIn_80 : decode cX6_comesIn 80 = .ok (.iconst 5, 1) := by decide +kernel
theorem dX6_comesIn_81 : decode cX6_comesIn 81 = .ok (.iadd, 1) := by decide +kernel
theorem dX6_comesIn_82 : decode cX6_comesIn 82 = .ok (.aload_n 0, 1) := by decide +kernel
theorem dX6_comesIn_83 : decode cX6_comesIn 83 = .ok (.getfield 30, 3) := by decide +kernel
theorem dX6_comesIn_86 : decode cX6_comesIn 86 = .ok (.iload_n 1, 1) := by decide +kernel
theorem dX6_comesIn_87 : decode cX6_comesIn 87 = .ok (.iaload, 1) := by decide +kernel
theorem dX6_comesIn_88 : decode cX6_comesIn 88 = .ok (.iadd, 1) := by decide +kernel
theorem dX6_comesIn_89 : decode cX6_comesIn 89 = .ok (.sipush 165, 3) := by decide +kernel
theorem dX6_comesIn_92 : decode cX6_comesIn 92 = .ok (.bipush 10, 2) := by decide +kernel
theorem dX6_comesIn_94 : decode cX6_comesIn 94 = .ok (.iload_n 1, 1) := by decide +kernel
theorem dX6_comesIn_95 : decode cX6_comesIn 95 = .ok (.imul, 1) := by decide +kernel
theorem dX6_comesIn_96 : decode cX6_comesIn 96 = .ok (.iadd, 1) := by decide +kernel
theorem dX6_comesIn_97 : decode cX6_comesIn 97 = .ok (.aload_n 0, 1) := by decide +kernel
theorem dX6_comesIn_98 : decode cX6_comesIn 98 = .ok (.getfield 30, 3) := by decide +kernel
theorem dX6_comesIn_101 : decode cX6_comesIn 101 = .ok (.iload_n 1, 1) := by decide +kernel
theorem dX6_comesIn_102 : decode cX6_comesIn 102 = .ok (.iaload, 1) := by decide +kernel
theorem dX6_comesIn_103 : decode cX6_comesIn 103 = .ok (.iadd, 1) := by decide +kernel
theorem dX6_comesIn_104 : decode cX6_comesIn 104 = .ok (.sipush 416, 3) := by decide +kernel
theorem dX6_comesIn_107 : decode cX6_comesIn 107 = .ok (.invokevirtual 113, 3) := by decide +kernel
theorem dX6_comesIn_110 : decode cX6_comesIn 110 = .ok (.pop, 1) := by decide +kernel
theorem dX6_comesIn_111 : decode cX6_comesIn 111 = .ok (.aload_n 0, 1) := by decide +kernel
theorem dX6_comesIn_112 : decode cX6_comesIn 112 = .ok (.bipush 15, 2) := by decide +kernel
theorem dX6_comesIn_114 : decode cX6_comesIn 114 = .ok (.iload_n 2, 1) := by decide +kernel
theorem dX6_comesIn_115 : decode cX6_comesIn 115 = .ok (.imul, 1) := by decide +kernel
theorem dX6_comesIn_116 : decode cX6_comesIn 116 = .ok (.iconst 5, 1) := by decide +kernel
theorem dX6_comesIn_117 : decode cX6_comesIn 117 = .ok (.iadd, 1) := by decide +kernel
theorem dX6_comesIn_118 : decode cX6_comesIn 118 = .ok (.sipush 165, 3) := by decide +kernel
theorem dX6_comesIn_121 : decode cX6_comesIn 121 = .ok (.bipush 10, 2) := by decide +kernel
theorem dX6_comesIn_123 : decode cX6_comesIn 123 = .ok (.iload_n 1, 1) := by decide +kernel
theorem dX6_comesIn_124 : decode cX6_comesIn 124 = .ok (.imul, 1) := by decide +kernel
theorem dX6_comesIn_125 : decode cX6_comesIn 125 = .ok (.iadd, 1) := by decide +kernel
theorem dX6_comesIn_126 : decode cX6_comesIn 126 = .ok (.bipush 10, 2) := by decide +kernel
theorem dX6_comesIn_128 : decode cX6_comesIn 128 = .ok (.sipush 416, 3) := by decide +kernel
theorem dX6_comesIn_131 : decode cX6_comesIn 131 = .ok (.invokevirtual 100, 3) := by decide +kernel
theorem dX6_comesIn_134 : decode cX6_comesIn 134 = .ok (.iinc 2 1, 3) := by decide +kernel
theorem dX6_comesIn_137 : decode cX6_comesIn 137 = .ok (.goto (-70), 3) := by decide +kernel
theorem dX6_comesIn_140 : decode cX6_comesIn 140 = .ok (.iinc 1 1, 3) := by decide +kernel
theorem dX6_comesIn_143 : decode cX6_comesIn 143 = .ok (.goto (-86), 3) := by decide +kernel
theorem dX6_comesIn_146 : decode cX6_comesIn 146 = .ok (.return_, 1) := by decide +kernel
theorem kk_loop (d : Nat) {g : GX} {V0 : AH} {mo sz r κ : Nat} {ar ac U K : Int} {z5 RK : Nat → Int} {lk : Nat → Nat} {c : Nat} {Q : AQ} (hr : r ≤ 10) (hmo0 : V0 mo = some (moO mo r κ ar ac)) (hra0 : V0 (mo + 7) = some (aIz g 11 RK)) (hlk : ∀ i, i < κ → RK i = (lk i : Int)) (hU : 1 ≤ U) (hK : 1 ≤ K) (hst : Stair (BMx 165 10 z5) κ 10 lk) (hkb : ∀ e t, e < κ → t < 10 → ab (z5 (165 + 10 * e + t)) ≤ K) (hSm : ∀ i, i ≤ 10 → SmM (U * (1 + K) ^ i)) (hc : c < κ)
    (hKK : ∀ {V : AH} {z : Nat → Int}, MN g mo V z → (∀ a, ¬ EN mo a → V a = V0 a) → KRI z5 z r κ lk U K c r → AW g mX6_comesIn (d + 6) 140 [(1, .int (iZ c)), (0, .ref mo)] [] V sz Q) : ∀ (y k : Nat), k + y = r → ∀ {V : AH} {z : Nat → Int}, MN g mo V z → (∀ a, ¬ EN mo a → V a = V0 a) → KRI z5 z r κ lk U K c k → AW g mX6_comesIn (d + 6) 67 [(2, .int (iZ k)), (1, .int (iZ c)), (0, .ref mo)] [] V sz Q
  | 0, k, hy, V, z, hM, hV, q => by
    have hmo := (hV mo (by unfold EN; omega)).trans hmo0
    refine aw_iload_n dX6_comesIn_67 (by rfl) ?_
    refine aw_aload_n dX6_comesIn_68 (by rfl) (Or.inr ⟨_, rfl⟩) ?_
    refine aw_get fX6_117 dX6_comesIn_69 hmo (by rfl) ?_
    refine aw_icmp_geZ (tgt := 140) dX6_comesIn_72 (by decide) (by omega) (by omega) (fun hc_72 => ?_) (fun hc_72 => ?_)
    · obtain rfl : k = r := by omega
      refine aw_pk [1, 0] (by rfl) ?_
      exact hKK hM hV q
    · exact absurd hc_72 (by omega)
  | y + 1, k, hy, V, z, hM, hV, q => by
    have IH := fun k hk => @kk_loop d g V0 mo sz r κ ar ac U K z5 RK lk c Q hr hmo0 hra0 hlk hU hK hst hkb hSm hc hKK y k hk
    have hmo := (hV mo (by unfold EN; omega)).trans hmo0
    have hra := (hV (mo + 7) (by unfold EN; omega)).trans hra0
    have hκ : κ ≤ 10 := hst.1.le_w
    have hlw := (hst.1.1 c hc).1
    have hkr : k < r := by omega
    have hbd := fun t (ht : t < 10) => KRI.bd hU hK hst hkb hr q hkr hc ht
    have hpi : 0 < z (165 + 10 * c + lk c) := by
      rw [q.1 _ (by omega) (by omega)]
      exact hst.2.1 c hc
    clear hKK
    refine aw_iload_n dX6_comesIn_67 (by rfl) ?_
    refine aw_aload_n dX6_comesIn_68 (by rfl) (Or.inr ⟨_, rfl⟩) ?_
    refine aw_get fX6_117 dX6_comesIn_69 hmo (by rfl) ?_
    refine aw_icmp_geZ (tgt := 140) dX6_comesIn_72 (by decide) (by omega) (by omega) (fun hc_72 => ?_) (fun hc_72 => ?_)
    · exact absurd hc_72 (by omega)
    · refine aw_aload_n dX6_comesIn_75 (by rfl) (Or.inr ⟨_, rfl⟩) ?_
      refine aw_bipushZ dX6_comesIn_76 (by decide) ?_
      refine aw_iload_n dX6_comesIn_78 (by rfl) ?_
      refine aw_imulZ dX6_comesIn_79 ?_
      refine aw_iconstZ dX6_comesIn_80 ?_
      refine aw_iaddZ dX6_comesIn_81 ?_
      refine aw_aload_n dX6_comesIn_82 (by rfl) (Or.inr ⟨_, rfl⟩) ?_
      refine aw_get fX6_30 dX6_comesIn_83 hmo (by rfl) ?_
      refine aw_iload_n dX6_comesIn_86 (by rfl) ?_
      refine aw_ialdZ (c) dX6_comesIn_87 hra (by omega) (by omega) (by omega) ?_
      rw [hlk c (by omega)]
      refine aw_iaddZ dX6_comesIn_88 ?_
      refine aw_topi (y := ((15 * k + 5 + lk c : Nat) : Int)) (by omega) ?_
      refine aw_sipushZ dX6_comesIn_89 (by decide) ?_
      refine aw_bipushZ dX6_comesIn_92 (by decide) ?_
      refine aw_iload_n dX6_comesIn_94 (by rfl) ?_
      refine aw_imulZ dX6_comesIn_95 ?_
      refine aw_iaddZ dX6_comesIn_96 ?_
      refine aw_aload_n dX6_comesIn_97 (by rfl) (Or.inr ⟨_, rfl⟩) ?_
      refine aw_get fX6_30 dX6_comesIn_98 hmo (by rfl) ?_
      refine aw_iload_n dX6_comesIn_101 (by rfl) ?_
      refine aw_ialdZ (c) dX6_comesIn_102 hra (by omega) (by omega) (by omega) ?_
      rw [hlk c (by omega)]
      refine aw_iaddZ dX6_comesIn_103 ?_
      refine aw_topi (y := ((165 + 10 * c + lk c : Nat) : Int)) (by omega) ?_
      refine aw_sipushZ dX6_comesIn_104 (by decide) ?_
      refine aw_topi (y := ((416 : Nat) : Int)) (by omega) ?_
      refine aw_callv vX6_113 dX6_comesIn_107 hmo (m_floors g (d + 3) (a := 15 * k + 5 + lk c) (e := 165 + 10 * c + lk c) (c := 416) ⟨_, _, ar, ac, hmo⟩ hM (by omega) (by omega) (by omega) (by omega) (by omega) (by omega) hpi) (by rfl) (by rfl) (by omega) (Nat.le_of_ble_eq_true rfl) ?_
      rintro _ V1 _ _ _ ⟨rfl, rfl, rfl, hE1, rfl, z1, hM1, hz1⟩ -
      refine q0 ?_
      have hmo1 := (hE1 mo (by unfold EN; omega)).trans hmo
      refine aw_pop dX6_comesIn_110 rfl ?_
      refine aw_aload_n dX6_comesIn_111 (by rfl) (Or.inr ⟨_, rfl⟩) ?_
      refine aw_bipushZ dX6_comesIn_112 (by decide) ?_
      refine aw_iload_n dX6_comesIn_114 (by rfl) ?_
      refine aw_imulZ dX6_comesIn_115 ?_
      refine aw_iconstZ dX6_comesIn_116 ?_
      refine aw_iaddZ dX6_comesIn_117 ?_
      refine aw_topi (y := ((15 * k + 5 : Nat) : Int)) (by omega) ?_
      refine aw_sipushZ dX6_comesIn_118 (by decide) ?_
      refine aw_bipushZ dX6_comesIn_121 (by decide) ?_
      refine aw_iload_n dX6_comesIn_123 (by rfl) ?_
      refine aw_imulZ dX6_comesIn_124 ?_
      refine aw_iaddZ dX6_comesIn_125 ?_
      refine aw_topi (y := ((165 + 10 * c : Nat) : Int)) (by omega) ?_
      refine aw_bipushZ dX6_comesIn_126 (by decide) ?_
      refine aw_sipushZ dX6_comesIn_128 (by decide) ?_
      refine aw_topi (y := ((416 : Nat) : Int)) (by omega) ?_
      refine aw_callv vX6_100 dX6_comesIn_131 hmo1 (m_takesRow g (d + 3) (a := 15 * k + 5) (e := 165 + 10 * c) (n := 10) (f := 416) ⟨_, _, ar, ac, hmo1⟩ hM1 (by omega) (by omega) (by omega) (by omega) (fun t ht => by rw [hz1 _ (by omega), upF_self, hz1 _ (by omega), upF_ne _ _ (by omega)]; exact smT (hSm (c + 1) (by omega)) (hbd t ht).1) (fun t ht => by rw [hz1 _ (by omega), upF_ne _ _ (by omega), hz1 416 (by omega), upF_self, hz1 _ (by omega), upF_ne _ _ (by omega)]; exact smT (hSm (c + 1) (by omega)) (hbd t ht).2)) (by rfl) (by rfl) (by omega) (Nat.le_of_ble_eq_true rfl) ?_
      rintro _ V2 _ _ _ ⟨rfl, rfl, rfl, hE2, rfl, z2, hM2, hTk⟩ -
      refine q0 ?_
      refine aw_iincZ dX6_comesIn_134 (by rfl) (by decide) ?_
      refine aw_goto (tgt := 67) dX6_comesIn_137 (by decide) ?_
      rw [show ((k : Int) + 1) = ((k + 1 : Nat) : Int) by omega]
      refine aw_pk [2, 1, 0] (by rfl) ?_
      refine IH (k + 1) (by omega) hM2 (fun a ha => (hE2 a ha).trans ((hE1 a ha).trans (hV a ha))) (KRI.step hU hK hst hkb hr q hkr hc (fun x hx hy => ?_) (fun t ht => ?_))
      · rw [hTk x (by omega), if_neg (by omega), hz1 x (by omega), upF_ne _ _ (by omega)]
      · rw [hTk _ (by omega), if_pos (by omega), hz1 _ (by omega), upF_ne _ _ (by omega), hz1 416 (by omega), upF_self, hz1 _ (by omega), upF_ne _ _ (by omega), show 165 + 10 * c + (15 * k + 5 + t - (15 * k + 5)) = 165 + 10 * c + t by omega]
theorem ko_loop (d : Nat) {g : GX} {V0 : AH} {mo sz r κ : Nat} {ar ac U K : Int} {z5 RK : Nat → Int} {lk : Nat → Nat} {Q : AQ} (hr : r ≤ 10) (hmo0 : V0 mo = some (moO mo r κ ar ac)) (hra0 : V0 (mo + 7) = some (aIz g 11 RK)) (hlk : ∀ i, i < κ → RK i = (lk i : Int)) (hU : 1 ≤ U) (hK : 1 ≤ K) (hst : Stair (BMx 165 10 z5) κ 10 lk) (hkb : ∀ e t, e < κ → t < 10 → ab (z5 (165 + 10 * e + t)) ≤ K) (hSm : ∀ i, i ≤ 10 → SmM (U * (1 + K) ^ i))
    (hKK : ∀ {V : AH} {z : Nat → Int}, MN g mo V z → (∀ a, ¬ EN mo a → V a = V0 a) → KRI z5 z r κ lk U K κ 0 → AW g mX6_comesIn (d + 6) 146 [(0, .ref mo)] [] V sz Q) : ∀ (y c : Nat), c + y = κ → ∀ {V : AH} {z : Nat → Int}, MN g mo V z → (∀ a, ¬ EN mo a → V a = V0 a) → KRI z5 z r κ lk U K c 0 → AW g mX6_comesIn (d + 6) 57 [(1, .int (iZ c)), (0, .ref mo)] [] V sz Q
  | 0, c, hy, V, z, hM, hV, q => by
    have hmo := (hV mo (by unfold EN; omega)).trans hmo0
    have hκ : κ ≤ 10 := hst.1.le_w
    refine aw_iload_n dX6_comesIn_57 (by rfl) ?_
    refine aw_aload_n dX6_comesIn_58 (by rfl) (Or.inr ⟨_, rfl⟩) ?_
    refine aw_get fX6_131 dX6_comesIn_59 hmo (by rfl) ?_
    refine aw_icmp_geZ (tgt := 146) dX6_comesIn_62 (by decide) (by omega) (by omega) (fun hc_62 => ?_) (fun hc_62 => ?_)
    · obtain rfl : c = κ := by omega
      refine aw_pk [0] (by rfl) ?_
      exact hKK hM hV q
    · exact absurd hc_62 (by omega)
  | y + 1, c, hy, V, z, hM, hV, q => by
    have IH := fun c hc => @ko_loop d g V0 mo sz r κ ar ac U K z5 RK lk Q hr hmo0 hra0 hlk hU hK hst hkb hSm hKK y c hc
    have hmo := (hV mo (by unfold EN; omega)).trans hmo0
    have hκ : κ ≤ 10 := hst.1.le_w
    refine aw_iload_n dX6_comesIn_57 (by rfl) ?_
    refine aw_aload_n dX6_comesIn_58 (by rfl) (Or.inr ⟨_, rfl⟩) ?_
    refine aw_get fX6_131 dX6_comesIn_59 hmo (by rfl) ?_
    refine aw_icmp_geZ (tgt := 146) dX6_comesIn_62 (by decide) (by omega) (by omega) (fun hc_62 => ?_) (fun hc_62 => ?_)
    · exact absurd hc_62 (by omega)
    · refine aw_iconstZ dX6_comesIn_65 ?_
      refine aw_istore_n dX6_comesIn_66 (by decide) ?_
      refine aw_pk [2, 1, 0] (by rfl) ?_
      refine kk_loop d (V0 := V0) (z5 := z5) hr hmo0 hra0 hlk hU hK hst hkb hSm (c := c) (by omega) (fun {V2 z2} hM2 hV2 q2 => ?_) r 0 (by omega) hM hV q
      refine aw_iincZ dX6_comesIn_140 (by rfl) (by decide) ?_
      refine aw_goto (tgt := 57) dX6_comesIn_143 (by decide) ?_
      rw [show ((c : Int) + 1) = ((c + 1 : Nat) : Int) by omega]
      refine aw_pk [1, 0] (by rfl) ?_
      exact IH (c + 1) (by omega) hM2 hV2 q2.out

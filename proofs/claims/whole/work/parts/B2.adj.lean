/-! ===== cofactors; mathematics alone ===== -/
theorem sgI_add : ∀ j k, sgI (j + k) = sgI j * sgI k
  | j, 0 => by show sgI j = sgI j * 1; rw [Int.mul_one]
  | j, k + 1 => by show - sgI (j + k) = sgI j * - sgI k; rw [sgI_add j k, Int.mul_neg]
/-- along any row -/
theorem det_row (n : Nat) (A : Mat) {j : Nat} (hj : j < n + 1) : det (n + 1) A = Sg (fun k => A j k * (sgI (j + k) * det n (fun a b => A (sk j a) (sk k b)))) (n + 1) := by
  have h1 := (ml_det (n + 1)).move j A hj
  have h2 : det (n + 1) (cns (A j) (fun l => A (sk j l))) = Sg (fun k => sgI k * A j k * det n (fun a b => A (sk j a) (sk k b))) (n + 1) := rfl
  have h3 : det (n + 1) A = Sg (fun k => sgI k * A j k * det n (fun a b => A (sk j a) (sk k b))) (n + 1) * sgI j := by
    rw [← h2, h1, Int.mul_comm (sgI j), Int.mul_assoc, sgI_sq, Int.mul_one]
  rw [h3, ← Sg_mulr]
  refine Sg_congr (fun k hk => ?_)
  rw [sgI_add]
  simp only [Int.mul_comm, Int.mul_left_comm, Int.mul_assoc]
/-- the cofactor of row i, column j -/
def cof (n : Nat) (A : Mat) (i j : Nat) : Int := sgI (i + j) * det (n - 1) (fun a b => A (sk i a) (sk j b))
theorem cof_T (n : Nat) (A : Mat) (i j : Nat) : cof n (fun a b => A b a) i j = cof n A j i := by
  unfold cof
  rw [Nat.add_comm j i, ← det_T (n - 1) (fun a b => A (sk j a) (sk i b))]
theorem adj1 {n : Nat} (A : Mat) {i j : Nat} (hi : i < n) (hj : j < n) : Sg (fun k => A i k * cof n A j k) n = if i = j then det n A else 0 := by
  obtain ⟨m, rfl⟩ : ∃ m, n = m + 1 := ⟨n - 1, by omega⟩
  have h1 := det_row m (upF A j (A i)) hj
  have h2 : Sg (fun k => upF A j (A i) j k * (sgI (j + k) * det m (fun a b => upF A j (A i) (sk j a) (sk k b)))) (m + 1) = Sg (fun k => A i k * cof (m + 1) A j k) (m + 1) := Sg_congr (fun k hk => by
    rw [upF_self]
    unfold cof
    rw [show m + 1 - 1 = m by omega, det_congr (A := fun a b => upF A j (A i) (sk j a) (sk k b)) (B := fun a b => A (sk j a) (sk k b)) (fun a b _ _ => by rw [upF_ne _ _ (by unfold sk; split <;> omega)])])
  rw [← h2, ← h1]
  by_cases e : i = j
  · rw [if_pos e, e, upF_idd A rfl]
  · rw [if_neg e]
    rcases Nat.lt_or_ge i j with q | q
    · have h3 := (ml_det (m + 1)).eq2 (i := i) (j - (i + 1)) (upF A j (A i)) (by omega) (by rw [show i + 1 + (j - (i + 1)) = j by omega, upF_self, upF_ne _ _ e])
      exact h3
    · have h3 := (ml_det (m + 1)).eq2 (i := j) (i - (j + 1)) (upF A j (A i)) (by omega) (by rw [show j + 1 + (i - (j + 1)) = i by omega, upF_self, upF_ne _ _ e])
      exact h3
theorem adj2 {n : Nat} (A : Mat) {i j : Nat} (hi : i < n) (hj : j < n) : Sg (fun k => A k i * cof n A k j) n = if i = j then det n A else 0 := by
  have h1 := adj1 (fun a b => A b a) hi hj
  rw [det_T n A] at h1
  rw [← h1]
  exact Sg_congr (fun k hk => by rw [cof_T])
/-- the way back -/
def bkM (n : Nat) (A : Mat) : Mat := fun i j => det n A * cof n A j i
theorem back_stair {N : Nat → Int} {n h : Nat} {l : Nat → Nat} {B : Mat} (hd : det n (TM N) = 1 ∨ det n (TM N) = -1) (hs : Stair B h (n + n) l) (hp : SpEq (TU N n) n B h (n + n)) : h = n ∧ ∀ i j, i < n → j < n → B i (n + j) = bkM n (TM N) i j := by
  have hsq : det n (TM N) * det n (TM N) = 1 := by rcases hd with q | q <;> rw [q] <;> rfl
  have yt : ∀ i j, i < n → j < n → Sg (fun k => bkM n (TM N) i k * TM N k j) n = if i = j then 1 else 0 := fun i j hi hj => by
    have h1 := adj2 (TM N) hj hi
    have h2 : Sg (fun k => bkM n (TM N) i k * TM N k j) n = Sg (fun k => TM N k j * cof n (TM N) k i) n * det n (TM N) := by
      rw [← Sg_mulr]
      exact Sg_congr (fun k _ => by unfold bkM; simp only [Int.mul_comm, Int.mul_left_comm, Int.mul_assoc])
    rw [h2, h1]
    by_cases e : j = i
    · rw [if_pos e, if_pos e.symm]; exact hsq
    · rw [if_neg e, if_neg (fun q => e q.symm), Int.zero_mul]
  have ty : ∀ i j, i < n → j < n → Sg (fun k => TM N i k * bkM n (TM N) k j) n = if i = j then 1 else 0 := fun i j hi hj => by
    have h1 := adj1 (TM N) hi hj
    have h2 : Sg (fun k => TM N i k * bkM n (TM N) k j) n = Sg (fun k => TM N i k * cof n (TM N) j k) n * det n (TM N) := by
      rw [← Sg_mulr]
      exact Sg_congr (fun k _ => by unfold bkM; simp only [Int.mul_comm, Int.mul_left_comm, Int.mul_assoc])
    rw [h2, h1]
    by_cases e : i = j
    · rw [if_pos e, if_pos e]; exact hsq
    · rw [if_neg e, if_neg e, Int.zero_mul]
  obtain ⟨B', hB⟩ : ∃ B' : Mat, B' = fun i j => if j < n then (if i = j then 1 else 0) else bkM n (TM N) i (j - n) := ⟨_, rfl⟩
  have b1 : ∀ i j, j < n → B' i j = if i = j then 1 else 0 := fun i j hj => by rw [hB]; show (if j < n then _ else _) = _; rw [if_pos hj]
  have b2 : ∀ i j, B' i (n + j) = bkM n (TM N) i j := fun i j => by rw [hB]; show (if n + j < n then _ else _) = _; rw [if_neg (by omega), show n + j - n = j by omega]
  have s' : Stair B' n (n + n) (fun i => i) := by
    refine ⟨⟨fun i hi => ⟨by show i < n + n; omega, by show B' i i ≠ 0; rw [b1 i i hi, if_pos rfl]; omega, fun j hj => by have hj : j < i := hj; rw [b1 i j (by omega), if_neg (by omega)]⟩, fun i k h1 _ => h1⟩, fun i hi => by show 0 < B' i i; rw [b1 i i hi, if_pos rfl]; omega, fun i k h1 h2 => ?_⟩
    show 0 ≤ B' i k ∧ B' i k < B' k k
    rw [b1 i k h2, b1 k k h2, if_neg (by omega), if_pos rfl]; omega
  have sp' : SpEq (TU N n) n B' n (n + n) := by
    refine SpEq.of (fun i hi => ⟨fun k => TM N i k, fun j hj => ?_⟩) (fun i hi => ⟨fun k => bkM n (TM N) i k, fun j hj => ?_⟩)
    · by_cases e : j < n
      · rw [Sg_one (k := j) e (fun k _ hne => by rw [b1 k j e, if_neg hne, Int.mul_zero]), b1 j j e, if_pos rfl, Int.mul_one]
        show (if j < n then _ else _) = _
        rw [if_pos e]
      · obtain ⟨k, rfl⟩ : ∃ k, j = n + k := ⟨j - n, by omega⟩
        rw [Sg_congr (h := fun a => TM N i a * bkM n (TM N) a k) (fun a _ => by rw [b2]), ty i k hi (by omega)]
        show (if n + k < n then _ else if n + k - n = i then 1 else 0) = _
        rw [if_neg (by omega), show n + k - n = k by omega]
        by_cases q : i = k
        · rw [if_pos q, if_pos q.symm]
        · rw [if_neg q, if_neg (fun z => q z.symm)]
    · by_cases e : j < n
      · rw [tu_tab (y := fun k => bkM n (TM N) i k) e, b1 i j e]
        exact (yt i j hi e).symm
      · obtain ⟨k, rfl⟩ : ∃ k, j = n + k := ⟨j - n, by omega⟩
        rw [tu_unit (y := fun k => bkM n (TM N) i k) (show k < n by omega), b2]
  obtain ⟨e1, -, e3⟩ := stair_uniq hs s' (hp.sy.tr sp')
  exact ⟨e1, fun i j hi hj => by rw [e3 i (n + j) (by omega) (by omega), b2]⟩

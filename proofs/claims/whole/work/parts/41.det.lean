/-! ===== determinants: mathematics alone ===== -/
def sk (j k : Nat) : Nat := if k < j then k else k + 1
theorem sk_in {j c : Nat} (h : j ≠ c) : sk j (if c < j then c else c - 1) = c := by
  unfold sk
  by_cases h1 : c < j
  · rw [if_pos h1, if_pos h1]
  · rw [if_neg h1, if_neg (by omega)]; omega
theorem sk_in1 {j c : Nat} (h : j ≠ c) (h2 : j ≠ c + 1) : sk j ((if c < j then c else c - 1) + 1) = c + 1 := by
  unfold sk
  by_cases h1 : c < j
  · rw [if_pos h1, if_pos (by omega)]
  · rw [if_neg h1, if_neg (by omega)]; omega
theorem sk_lt {j k : Nat} (h : k < j) : sk j k = k := by unfold sk; rw [if_pos h]
theorem sk_ge {j k : Nat} (h : j ≤ k) : sk j k = k + 1 := by unfold sk; rw [if_neg (by omega)]
def sgI : Nat → Int
  | 0 => 1
  | j + 1 => - sgI j
def det : Nat → Mat → Int
  | 0, _ => 1
  | n + 1, A => Sg (fun j => sgI j * A 0 j * det n (fun i k => A (i + 1) (sk j k))) (n + 1)
theorem det_congr : ∀ {n : Nat} {A B : Mat}, (∀ i j, i < n → j < n → A i j = B i j) → det n A = det n B
  | 0, _, _, _ => rfl
  | n + 1, A, B, h => by
    simp only [det]
    refine Sg_congr (fun j hj => ?_)
    rw [h 0 j (by omega) hj, det_congr (A := fun i k => A (i + 1) (sk j k)) (B := fun i k => B (i + 1) (sk j k)) (fun i k hi hk => h _ _ (by omega) (by unfold sk; split <;> omega))]
/-- linear in a column -/
theorem det_col : ∀ {n : Nat} {A B C : Mat} {c : Nat} {a b : Int}, c < n → (∀ i, i < n → A i c = a * B i c + b * C i c) → (∀ i j, i < n → j < n → j ≠ c → A i j = B i j ∧ A i j = C i j) → det n A = a * det n B + b * det n C
  | 0, _, _, _, _, _, _, h, _, _ => absurd h (by omega)
  | n + 1, A, B, C, c, a, b, hc, h1, h2 => by
    simp only [det]
    rw [← Sg_lin]
    refine Sg_congr (fun j hj => ?_)
    show _ = a * (_ * _) + b * (_ * _)
    by_cases hq : j = c
    · subst hq
      have e1 : det n (fun i k => A (i + 1) (sk j k)) = det n (fun i k => B (i + 1) (sk j k)) := det_congr (fun i k hi hk => (h2 _ _ (by omega) (by unfold sk; split <;> omega) (by unfold sk; split <;> omega)).1)
      have e2 : det n (fun i k => A (i + 1) (sk j k)) = det n (fun i k => C (i + 1) (sk j k)) := det_congr (fun i k hi hk => (h2 _ _ (by omega) (by unfold sk; split <;> omega) (by unfold sk; split <;> omega)).2)
      rw [← e1, ← e2, h1 0 (by omega)]
      generalize det n (fun i k => A (i + 1) (sk j k)) = X
      rw [Int.mul_add, Int.add_mul]
      congr 1
      · rw [← Int.mul_assoc, ← Int.mul_assoc, ← Int.mul_assoc, Int.mul_comm (sgI j) a]
      · rw [← Int.mul_assoc, ← Int.mul_assoc, ← Int.mul_assoc, Int.mul_comm (sgI j) b]
    · have e := det_col (n := n) (A := fun i k => A (i + 1) (sk j k)) (B := fun i k => B (i + 1) (sk j k)) (C := fun i k => C (i + 1) (sk j k)) (c := if c < j then c else c - 1) (a := a) (b := b) (by split <;> omega) (fun i hi => by
          have hs := sk_in hq
          rw [hs]; exact h1 (i + 1) (by omega)) (fun i k hi hk hne => h2 _ _ (by omega) (by unfold sk; split <;> omega) (by unfold sk; revert hne; split <;> split <;> omega))
      rw [e, (h2 0 j (by omega) hj hq).1]
      have e3 : B 0 j = C 0 j := (h2 0 j (by omega) hj hq).1.symm.trans (h2 0 j (by omega) hj hq).2
      rw [← e3]
      generalize det n (fun i k => B (i + 1) (sk j k)) = X
      generalize det n (fun i k => C (i + 1) (sk j k)) = Y
      generalize sgI j * B 0 j = Z
      rw [Int.mul_add]
      congr 1
      · rw [← Int.mul_assoc, ← Int.mul_assoc, Int.mul_comm Z a]
      · rw [← Int.mul_assoc, ← Int.mul_assoc, Int.mul_comm Z b]
theorem Sg_two {f : Nat → Int} {k : Nat} : ∀ {n : Nat}, k + 1 < n → f k + f (k + 1) = 0 → (∀ i, i < n → i ≠ k → i ≠ k + 1 → f i = 0) → Sg f n = 0
  | 0, h, _, _ => absurd h (by omega)
  | n + 1, h, h0, q => by
    simp only [Sg]
    by_cases hk : k + 1 = n
    · subst hk
      have e : Sg f (k + 1) = Sg f k + f k := rfl
      rw [e, Sg_zero (fun i hi => q i (by omega) (by omega) (by omega))]
      omega
    · rw [Sg_two (k := k) (n := n) (by omega) h0 (fun i hi h1 h2 => q i (by omega) h1 h2), q n (by omega) (by omega) (by omega)]
      rfl
/-- two columns beside each other that are the same -/
theorem det_alt : ∀ {n : Nat} {A : Mat} {c : Nat}, c + 1 < n → (∀ i, i < n → A i c = A i (c + 1)) → det n A = 0
  | 0, _, _, h, _ => absurd h (by omega)
  | n + 1, A, c, hc, h => by
    simp only [det]
    refine Sg_two (k := c) hc ?_ (fun j hj h1 h2 => ?_)
    · have e : det n (fun i k => A (i + 1) (sk c k)) = det n (fun i k => A (i + 1) (sk (c + 1) k)) := det_congr (fun i k hi hk => by
        by_cases hq : k = c
        · subst hq
          have e1 : sk k k = k + 1 := by unfold sk; rw [if_neg (by omega)]
          have e2 : sk (k + 1) k = k := by unfold sk; rw [if_pos (by omega)]
          show A _ (sk k k) = A _ (sk (k + 1) k)
          rw [e1, e2]; exact (h (i + 1) (by omega)).symm
        · have e1 : sk c k = sk (c + 1) k := by unfold sk; split <;> split <;> omega
          show A _ (sk c k) = A _ (sk (c + 1) k)
          rw [e1])
      show sgI c * A 0 c * _ + (- sgI c) * A 0 (c + 1) * _ = 0
      rw [e, h 0 (by omega), Int.neg_mul, Int.neg_mul]
      omega
    · have e := det_alt (n := n) (A := fun i k => A (i + 1) (sk j k)) (c := if c < j then c else c - 1) (by split <;> omega) (fun i hi => by
        have e1 := sk_in h1
        have e2 := sk_in1 h1 h2
        show A _ (sk j _) = A _ (sk j _)
        rw [e1, e2]; exact h (i + 1) (by omega))
      show sgI j * A 0 j * det n (fun i k => A (i + 1) (sk j k)) = 0
      rw [e, Int.mul_zero]
/-- linear in each of n rows, 0 where two rows beside each other are the same -/
def ML (n : Nat) (F : Mat → Int) : Prop :=
  (∀ u v : Mat, (∀ i, i < n → u i = v i) → F u = F v) ∧ (∀ (u : Mat) (i : Nat) (a b : Int) (x y : Nat → Int), i < n → F (upF u i (fun j => a * x j + b * y j)) = a * F (upF u i x) + b * F (upF u i y)) ∧ ∀ (u : Mat) (i : Nat), i + 1 < n → u i = u (i + 1) → F u = 0
theorem ml_dc (n : Nat) : ML n (fun u => det n (fun i j => u j i)) := by
  refine ⟨fun u v h => det_congr (fun i j hi hj => by rw [h j hj]), fun u i a b x y hi => ?_, fun u i hi h => det_alt (c := i) hi (fun k hk => by rw [h])⟩
  refine det_col (c := i) hi (fun k hk => ?_) (fun k j hk hj hne => ?_)
  · rw [upF_self, upF_self, upF_self]
  · rw [upF_ne _ _ hne, upF_ne _ _ hne, upF_ne _ _ hne]; exact ⟨rfl, rfl⟩
theorem upF_upF {α : Type} (u : Nat → α) (i : Nat) (x y : α) : upF (upF u i x) i y = upF u i y := by
  funext k; unfold upF; split <;> rfl
theorem upF_comm {α : Type} (u : Nat → α) {i j : Nat} (h : i ≠ j) (x y : α) : upF (upF u i x) j y = upF (upF u j y) i x := by
  funext k; unfold upF; split <;> split <;> first | rfl | omega
section MLs
variable {n : Nat} {F : Mat → Int}
theorem ML.add (h : ML n F) (u : Mat) {i : Nat} (hi : i < n) (x y : Nat → Int) : F (upF u i (fun j => x j + y j)) = F (upF u i x) + F (upF u i y) := by
  have := h.2.1 u i 1 1 x y hi
  simp only [Int.one_mul] at this
  exact this
theorem ML.zero (h : ML n F) (u : Mat) {i : Nat} (hi : i < n) : F (upF u i (fun _ => 0)) = 0 := by
  have := h.2.1 u i 0 0 (fun _ => 0) (fun _ => 0) hi
  simp only [Int.zero_mul] at this
  exact this
theorem ML.sum (h : ML n F) (u : Mat) {i : Nat} (hi : i < n) (c : Nat → Int) (H : Mat) : ∀ m : Nat, F (upF u i (fun j => Sg (fun k => c k * H k j) m)) = Sg (fun k => c k * F (upF u i (H k))) m
  | 0 => h.zero u hi
  | m + 1 => by
    have e := h.2.1 u i 1 (c m) (fun j => Sg (fun k => c k * H k j) m) (H m) hi
    simp only [Int.one_mul] at e
    show F (upF u i (fun j => Sg (fun k => c k * H k j) m + c m * H m j)) = _
    rw [e, ML.sum h u hi c H m]
    rfl
/-- two rows beside each other changed -/
theorem ML.swap (h : ML n F) (u : Mat) {i : Nat} (hi : i + 1 < n) (x y : Nat → Int) : F (upF (upF u i x) (i + 1) y) = - F (upF (upF u i y) (i + 1) x) := by
  have c0 : ∀ a b : Nat → Int, upF (upF u i a) (i + 1) b = upF (upF u (i + 1) b) i a := fun a b => upF_comm u (by omega) a b
  have L1 : ∀ a b c : Nat → Int, F (upF (upF u i (fun j => a j + b j)) (i + 1) c) = F (upF (upF u i a) (i + 1) c) + F (upF (upF u i b) (i + 1) c) := fun a b c => by
    rw [c0 (fun j => a j + b j) c, c0 a c, c0 b c]; exact h.add _ (by omega) a b
  have L2 : ∀ a b c : Nat → Int, F (upF (upF u i c) (i + 1) (fun j => a j + b j)) = F (upF (upF u i c) (i + 1) a) + F (upF (upF u i c) (i + 1) b) := fun a b c => h.add _ hi a b
  have alt : ∀ z : Nat → Int, F (upF (upF u i z) (i + 1) z) = 0 := fun z => h.2.2 _ i hi (by rw [upF_ne _ _ (by omega), upF_self, upF_self])
  have h0 := alt (fun j => x j + y j)
  rw [L1, L2, L2, alt x, alt y] at h0
  omega
theorem upF_idd {α : Type} (u : Nat → α) {i : Nat} {x : α} (h : u i = x) : upF u i x = u := by
  funext k; unfold upF; split
  · rename_i q; rw [q, h]
  · rfl
/-- two rows that are the same -/
theorem ML.eq2 (h : ML n F) {i : Nat} : ∀ (x : Nat) (u : Mat), i + 1 + x < n → u i = u (i + 1 + x) → F u = 0
  | 0, u, hx, e => h.2.2 u i hx e
  | x + 1, u, hx, e => by
    have h1 := h.swap u (i := i + 1 + x) (by omega) (u (i + 1 + x)) (u (i + 1 + x + 1))
    rw [upF_idd u rfl, upF_idd u rfl] at h1
    rw [h1, ML.eq2 (i := i) h x (upF (upF u (i + 1 + x) (u (i + 1 + x + 1))) (i + 1 + x + 1) (u (i + 1 + x))) (by omega) (by
      rw [upF_ne _ _ (by omega), upF_ne _ _ (by omega), upF_ne _ _ (by omega), upF_self]; exact e)]
    rfl
def cns (x : Nat → Int) (v : Mat) : Mat
  | 0 => x
  | i + 1 => v i
end MLs
theorem cns_up (x y : Nat → Int) (v : Mat) (i : Nat) : cns x (upF v i y) = upF (cns x v) (i + 1) y := by
  funext k
  cases k with
  | zero => rw [upF_ne _ _ (by omega)]; rfl
  | succ k =>
    show upF v i y k = _
    by_cases h1 : k = i
    · subst h1; rw [upF_self, upF_self]
    · rw [upF_ne _ _ h1, upF_ne _ _ (by omega)]; rfl
theorem ML.cons {n : Nat} {F : Mat → Int} (h : ML (n + 1) F) (x : Nat → Int) : ML n (fun v => F (cns x v)) := by
  refine ⟨fun u v q => h.1 _ _ (fun i hi => ?_), fun u i a b y z hi => ?_, fun u i hi q => h.2.2 _ (i + 1) (by omega) q⟩
  · cases i with
    | zero => rfl
    | succ i => exact q i (by omega)
  · show F (cns x _) = a * F (cns x _) + b * F (cns x _)
    rw [cns_up, cns_up, cns_up]
    exact h.2.1 _ _ a b y z (by omega)
/-- the first row taken to its place -/
theorem ML.move {n : Nat} {F : Mat → Int} (h : ML (n + 1) F) : ∀ (k : Nat) (H : Mat), k < n + 1 → F (cns (H k) (fun l => H (sk k l))) = sgI k * F H
  | 0, H, _ => by
    have e : cns (H 0) (fun l => H (sk 0 l)) = H := by
      funext i
      cases i with
      | zero => rfl
      | succ i =>
        show H (sk 0 i) = _
        rw [sk_ge (Nat.zero_le _)]
    rw [e]
    simp [sgI]
  | k + 1, H, hk => by
    have e0 := ML.move h k (upF (upF H k (H (k + 1))) (k + 1) (H k)) (by omega)
    have e : cns ((upF (upF H k (H (k + 1))) (k + 1) (H k)) k) (fun l => (upF (upF H k (H (k + 1))) (k + 1) (H k)) (sk k l)) = cns (H (k + 1)) (fun l => H (sk (k + 1) l)) := by
      funext i
      cases i with
      | zero =>
        show upF (upF H k (H (k + 1))) (k + 1) (H k) k = H (k + 1)
        rw [upF_ne _ _ (by omega), upF_self]
      | succ i =>
        show upF (upF H k (H (k + 1))) (k + 1) (H k) (sk k i) = H (sk (k + 1) i)
        rcases Nat.lt_trichotomy i k with hq | hq | hq
        · rw [sk_lt hq, sk_lt (by omega), upF_ne _ _ (by omega), upF_ne _ _ (by omega)]
        · rw [sk_ge (by omega), sk_lt (by omega), hq, upF_self]
        · rw [sk_ge (by omega), sk_ge (by omega), upF_ne _ _ (by omega), upF_ne _ _ (by omega)]
    rw [e] at e0
    rw [e0, h.swap H (i := k) (by omega), upF_idd H rfl, upF_idd H rfl]
    simp only [sgI]
    rw [Int.mul_neg, Int.neg_mul]
theorem Sg_sk {f : Nat → Int} {k : Nat} : ∀ {n : Nat}, k < n + 1 → Sg f (n + 1) = Sg (fun l => f (sk k l)) n + f k
  | 0, h => by
    obtain rfl : k = 0 := by omega
    simp [Sg]
  | n + 1, h => by
    by_cases hk : k = n + 1
    · subst hk
      have e : Sg (fun l => f (sk (n + 1) l)) (n + 1) = Sg f (n + 1) := Sg_congr (fun i hi => by unfold sk; rw [if_pos hi])
      rw [e]; rfl
    · have e1 : Sg f (n + 1 + 1) = Sg f (n + 1) + f (n + 1) := rfl
      have e2 : Sg (fun l => f (sk k l)) (n + 1) = Sg (fun l => f (sk k l)) n + f (sk k n) := rfl
      have e3 : sk k n = n + 1 := by unfold sk; rw [if_neg (by omega)]
      rw [e1, e2, e3, Sg_sk (k := k) (n := n) (by omega)]
      omega
theorem Sg_mulr (f : Nat → Int) (c : Int) : ∀ n : Nat, Sg (fun k => f k * c) n = Sg f n * c
  | 0 => by simp [Sg]
  | n + 1 => by
    simp only [Sg]
    rw [Sg_mulr f c n, Int.add_mul]
/-- multiples of the first row don't count in the others -/
theorem ML.absorb {n : Nat} {F : Mat → Int} (h : ML (n + 1) F) (x : Nat → Int) (v v' : Mat) (c : Nat → Int) (e : ∀ i, i < n → v i = fun j => v' i j + c i * x j) : ∀ t, t ≤ n → F (cns x (fun i => if i < t then v' i else v i)) = F (cns x v)
  | 0, _ => by
    congr 1
  | t + 1, ht => by
    rw [← ML.absorb h x v v' c e t (by omega)]
    have hG := h.cons x
    have e1 : (fun i => if i < t then v' i else v i) = upF (fun i => if i < t + 1 then v' i else v i) t (fun j => v' t j + c t * x j) := by
      funext i
      unfold upF
      by_cases h1 : i = t
      · subst h1
        rw [if_pos rfl, if_neg (by omega), e i (by omega)]
      · rw [if_neg h1]
        by_cases h2 : i < t
        · rw [if_pos h2]; show v' i = if i < t + 1 then v' i else v i; rw [if_pos (by omega)]
        · rw [if_neg h2]; show v i = if i < t + 1 then v' i else v i; rw [if_neg (by omega)]
    have e2 : upF (fun i => if i < t + 1 then v' i else v i) t (v' t) = fun i => if i < t + 1 then v' i else v i := upF_idd _ (by rw [if_pos (by omega)])
    rw [e1]
    have e3 := hG.2.1 (fun i => if i < t + 1 then v' i else v i) t 1 (c t) (v' t) x (by omega)
    simp only [Int.one_mul] at e3
    rw [e3, e2]
    have e4 : F (cns x (upF (fun i => if i < t + 1 then v' i else v i) t x)) = 0 := by
      rw [cns_up]
      refine h.eq2 (i := 0) t _ (by omega) ?_
      rw [upF_ne _ _ (by omega), show 0 + 1 + t = t + 1 by omega, upF_self]
      rfl
    rw [e4]
    omega
theorem ml_main : ∀ (n : Nat) {F : Mat → Int}, ML n F → ∀ W H : Mat, F (fun i j => Sg (fun k => W i k * H k j) n) = det n W * F H
  | 0, F, h, W, H => by
    rw [h.1 _ H (fun i hi => absurd hi (by omega))]
    simp [det]
  | n + 1, F, h, W, H => by
    have e0 := h.sum (fun i j => Sg (fun k => W i k * H k j) (n + 1)) (i := 0) (by omega) (W 0) H (n + 1)
    rw [upF_idd _ rfl] at e0
    rw [e0]
    simp only [det]
    rw [← Sg_mulr]
    refine Sg_congr (fun k hk => ?_)
    have e1 : upF (fun i j => Sg (fun k => W i k * H k j) (n + 1)) 0 (H k) = cns (H k) (fun i j => Sg (fun l => W (i + 1) l * H l j) (n + 1)) := by
      funext i
      cases i with
      | zero => rw [upF_self]; rfl
      | succ i => rw [upF_ne _ _ (by omega)]; rfl
    have e2 := h.absorb (H k) (fun i j => Sg (fun l => W (i + 1) l * H l j) (n + 1)) (fun i j => Sg (fun l => W (i + 1) (sk k l) * H (sk k l) j) n) (fun i => W (i + 1) k) (fun i hi => by
      funext j
      exact Sg_sk (f := fun l => W (i + 1) l * H l j) hk) n (Nat.le_refl _)
    have e3 : F (cns (H k) (fun i => if i < n then (fun j => Sg (fun l => W (i + 1) (sk k l) * H (sk k l) j) n) else fun j => Sg (fun l => W (i + 1) l * H l j) (n + 1))) = F (cns (H k) (fun i j => Sg (fun l => W (i + 1) (sk k l) * H (sk k l) j) n)) := (h.cons (H k)).1 _ _ (fun i hi => by rw [if_pos hi])
    have e4 := ml_main n (h.cons (H k)) (fun i l => W (i + 1) (sk k l)) (fun l => H (sk k l))
    rw [e1, ← e2, e3, e4, h.move k H hk]
    generalize det n (fun i l => W (i + 1) (sk k l)) = X
    generalize F H = Y
    rw [← Int.mul_assoc, ← Int.mul_assoc, Int.mul_assoc (W 0 k) X, Int.mul_comm X, ← Int.mul_assoc, Int.mul_comm (W 0 k)]
def Idm : Mat := fun i j => if i = j then 1 else 0
theorem det_id : ∀ n : Nat, det n Idm = 1
  | 0 => rfl
  | n + 1 => by
    simp only [det]
    rw [Sg_one (k := 0) (by omega) (fun j hj h0 => by
      have : Idm 0 j = 0 := by unfold Idm; rw [if_neg (by omega)]
      rw [this, Int.mul_zero, Int.zero_mul])]
    rw [det_congr (B := Idm) (fun i k hi hk => by rw [sk_ge (Nat.zero_le _)]; unfold Idm; by_cases hq : i = k; (rw [if_pos hq, if_pos (by omega)]); (rw [if_neg hq, if_neg (by omega)])), det_id n]
    rfl
theorem det_T (n : Nat) (W : Mat) : det n (fun i j => W j i) = det n W := by
  have h := ml_main n (ml_dc n) W Idm
  have e1 : det n (fun i j => Idm j i) = 1 := by
    rw [det_congr (B := Idm) (fun i j _ _ => by unfold Idm; split <;> split <;> first | rfl | omega)]
    exact det_id n
  simp only [e1, Int.mul_one] at h
  rw [← h]
  refine det_congr (fun i j hi hj => ?_)
  rw [Sg_one (k := i) hi (fun k _ hne => by unfold Idm; rw [if_neg hne, Int.mul_zero])]
  unfold Idm
  rw [if_pos rfl, Int.mul_one]
theorem ml_det (n : Nat) : ML n (det n) := by
  have e : det n = fun u : Mat => det n (fun i j => u j i) := funext (fun u => (det_T n u).symm)
  rw [e]; exact ml_dc n
/-- the product of lists of numbers; of triangles -/
def Pd (f : Nat → Int) : Nat → Int
  | 0 => 1
  | n + 1 => Pd f n * f n
theorem Pd_shift (f : Nat → Int) : ∀ n, Pd f (n + 1) = f 0 * Pd (fun i => f (i + 1)) n
  | 0 => by simp [Pd]
  | n + 1 => by
    have e1 : Pd f (n + 1 + 1) = Pd f (n + 1) * f (n + 1) := rfl
    have e2 : Pd (fun i => f (i + 1)) (n + 1) = Pd (fun i => f (i + 1)) n * f (n + 1) := rfl
    rw [e1, e2, Pd_shift f n, Int.mul_assoc]
theorem det_low : ∀ {n : Nat} {A : Mat}, (∀ i j, i < j → j < n → A i j = 0) → det n A = Pd (fun i => A i i) n
  | 0, _, _ => rfl
  | n + 1, A, h => by
    simp only [det]
    rw [Sg_one (k := 0) (by omega) (fun j hj h0 => by rw [h 0 j (by omega) hj, Int.mul_zero, Int.zero_mul]), Pd_shift]
    have e : det n (fun i k => A (i + 1) (sk 0 k)) = Pd (fun i => A (i + 1) (i + 1)) n := by
      have e2 : ∀ k, sk 0 k = k + 1 := fun k => by unfold sk; rw [if_neg (by omega)]
      rw [det_low (A := fun i k => A (i + 1) (sk 0 k)) (fun i j hij hj => by rw [e2]; exact h _ _ (by omega) (by omega))]
      congr 1
    rw [e]
    simp [sgI]
def fac : Nat → Int
  | 0 => 1
  | n + 1 => ((n : Int) + 1) * fac n
theorem fac_pos : ∀ n, 1 ≤ fac n
  | 0 => by decide
  | n + 1 => by
    have := fac_pos n
    show 1 ≤ ((n : Int) + 1) * fac n
    have h : 1 * 1 ≤ ((n : Int) + 1) * fac n := Int.mul_le_mul (by omega) this (by omega) (by omega)
    omega
theorem Sg_ab {f : Nat → Int} {b : Int} : ∀ {n : Nat}, (∀ i, i < n → ab (f i) ≤ b) → ab (Sg f n) ≤ (n : Int) * b
  | 0, _ => by simp [Sg, ab]
  | n + 1, h => by
    simp only [Sg]
    have h1 := Sg_ab (f := f) (n := n) (fun i hi => h i (by omega))
    have h2 := h n (by omega)
    have h3 : ab (Sg f n + f n) ≤ ab (Sg f n) + ab (f n) := by unfold ab; omega
    have h4 : ((n + 1 : Nat) : Int) * b = (n : Int) * b + b := by rw [Int.natCast_add, Int.add_mul]; omega
    omega
theorem ab_sgI : ∀ j, ab (sgI j) = 1
  | 0 => rfl
  | j + 1 => by
    show ab (- sgI j) = 1
    rw [ab_neg]; exact ab_sgI j
theorem det_ab {b : Int} (hb : 0 ≤ b) : ∀ {n : Nat} {A : Mat}, (∀ i j, i < n → j < n → ab (A i j) ≤ b) → ab (det n A) ≤ fac n * b ^ n
  | 0, _, _ => by simp [det, fac, ab]
  | n + 1, A, h => by
    simp only [det]
    have h1 : ∀ j, j < n + 1 → ab (sgI j * A 0 j * det n (fun i k => A (i + 1) (sk j k))) ≤ b * (fac n * b ^ n) := fun j hj => by
      rw [ab_mul, ab_mul, ab_sgI, Int.one_mul]
      exact Int.mul_le_mul (h 0 j (by omega) hj) (det_ab hb (fun i k hi hk => h _ _ (by omega) (by unfold sk; split <;> omega))) (ab0 _) hb
    have h2 := Sg_ab h1
    have e : fac (n + 1) * b ^ (n + 1) = ((n + 1 : Nat) : Int) * (b * (fac n * b ^ n)) := by
      show ((n : Int) + 1) * fac n * b ^ (n + 1) = _
      rw [Int.pow_succ, Int.natCast_add, Int.mul_assoc]
      congr 1
      rw [← Int.mul_assoc, Int.mul_comm]
    rw [e]; exact h2

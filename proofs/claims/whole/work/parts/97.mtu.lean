/-! ===== bounds of the lattice of all (xT, x) ===== -/
theorem lbm_of {A : Mat} {n w hm : Nat} {M : Int} (hM1 : 1 ≤ M) (hm1 : 1 ≤ hm) (hw : 0 < w) (hMin : ∀ h, h ≤ hm → ∀ τ s : Nat → Nat, (∀ i, i < h → τ i < n) → (∀ k, k < h → s k < w) → (∀ i k, i < h → k < h → i ≠ k → s i ≠ s k) → ab (det h (fun i k => A (τ i) (s k))) ≤ M) : LBM A n w hm ((hm : Int) * M) M := by
  intro B h l hE hsp hh
  have key : ∀ j, j < w → Pd (fun i => ab (B i (l i))) h ≤ M ∧ ((∀ m, m < h → l m ≠ j) → ∀ v, Span B h w v → ∀ X : Int, 0 ≤ X → (∀ m, m < h → ab (v (l m)) ≤ X * ab (B m (l m))) → ab (v j) ≤ X * ((hm : Int) * M)) := fun j hj => by
    have hlw : ∀ m, m < h → l m < w := fun m hm => (hE.1 m hm).1
    let col : Nat → Nat := fun k => if k = 0 then j else l (k - 1)
    have hcol : ∀ c k, k < h → col (sk c k) < w := fun c k hk => by
      show (if sk c k = 0 then j else l (sk c k - 1)) < w
      split
      · exact hj
      · refine hlw _ ?_
        revert k
        intro k hk h0
        unfold sk at h0 ⊢
        split at h0 <;> split <;> omega
    have hG : ∀ c, ML h (fun u => det h (fun i k => u i (col (sk c k)))) := fun c => ml_sel h (fun k => col (sk c k))
    have c0 : ∀ k, col (sk 0 k) = l k := fun k => by
      show (if sk 0 k = 0 then j else l (sk 0 k - 1)) = l k
      rw [sk_ge (Nat.zero_le _), if_neg (by omega)]
      rfl
    -- the minor of the leads
    have hFB : det h (fun i k => B i (col (sk 0 k))) = Pd (fun i => B i (l i)) h := by
      rw [← det_T]
      rw [det_low (fun i k hik hk => by rw [c0]; exact (hE.1 k hk).2.2 _ (hE.2 i k hik hk))]
      exact congrArg (fun f => Pd f h) (funext (fun i => congrArg (B i) (c0 i)))
    have hone : ∀ i, i < h → 1 ≤ ab (B i (l i)) := fun i hi => by
      have := (hE.1 i hi).2.1
      unfold ab; omega
    have hD : ab (det h (fun i k => B i (col (sk 0 k)))) = Pd (fun i => ab (B i (l i))) h := by rw [hFB, Pd_ab]
    have hPd := Pd_ge (f := fun i => ab (B i (l i))) (n := h) hone
    rw [← hD] at hPd
    -- some choice of generators has a minor that is not 0
    have hex : ∃ τ : Nat → Nat, (∀ i, i < h → τ i < n) ∧ det h (fun i k => A (τ i) (col (sk 0 k))) ≠ 0 := by
      refine Classical.byContradiction (fun hno => ?_)
      have h0 : ∀ τ : Nat → Nat, (∀ i, i < h → τ i < n) → det h (fun i k => A (τ i) (col (sk 0 k))) = 0 := fun τ hτ => Classical.byContradiction (fun q => hno ⟨τ, hτ, q⟩)
      have hc : ∀ i, ∃ c : Nat → Int, i < h → ∀ j, j < w → B i j = Sg (fun k => c k * A k j) n := fun i => by
        by_cases hi : i < h
        · obtain ⟨c, hc⟩ := (hsp (B i)).mpr (Span.row hi)
          exact ⟨c, fun _ => hc⟩
        · exact ⟨fun _ => 0, fun q => absurd q hi⟩
      obtain ⟨c, hc⟩ := Classical.axiomOfChoice hc
      have h1 := ml_van (hG 0) (A := A) (n := n) h0 c h (Nat.le_refl _) (fun _ => 0) (fun i h1 h2 => absurd h1 (by omega))
      have h2 : det h (fun i k => B i (col (sk 0 k))) = 0 := by
        rw [← h1]
        refine det_congr (fun i k hi hk => ?_)
        show _ = (if i < h then (fun j => Sg (fun k => c i k * A k j) n) else A 0) (col (sk 0 k))
        rw [if_pos hi]
        exact hc i hi _ (hcol 0 k hk)
      rw [h2] at hPd
      have : ab (0 : Int) = 0 := rfl
      omega
    obtain ⟨τ, hτ, hτ0⟩ := hex
    have hW : ∀ i, ∃ c : Nat → Int, i < h → ∀ j, j < w → A (τ i) j = Sg (fun k => c k * B k j) h := fun i => by
      by_cases hi : i < h
      · obtain ⟨c, hc⟩ := (hsp (A (τ i))).mp (Span.row (hτ i hi))
        exact ⟨c, fun _ => hc⟩
      · exact ⟨fun _ => 0, fun q => absurd q hi⟩
    obtain ⟨W, hW⟩ := Classical.axiomOfChoice hW
    have hGW : ∀ c, det h (fun i k => A (τ i) (col (sk c k))) = det h W * det h (fun i k => B i (col (sk c k))) := fun c => by
      rw [← ml_main h (hG c) W B]
      exact det_congr (fun i k hi hk => hW i hi _ (hcol c k hk))
    have hd1 : 1 ≤ ab (det h W) := by
      rw [hGW 0] at hτ0
      have : det h W ≠ 0 := fun q => hτ0 (by rw [q, Int.zero_mul])
      unfold ab; omega
    have hPdM : Pd (fun i => ab (B i (l i))) h ≤ M := by
      have h1 := hMin h hh τ (fun k => col (sk 0 k)) hτ (hcol 0) (fun i k hi hk hne q => by
        rw [c0, c0] at q
        rcases Nat.lt_or_ge i k with z | z
        · have := hE.2 i k z hk; omega
        · have := hE.2 k i (by omega) hi; omega)
      rw [hGW 0, ab_mul] at h1
      have h2 : 1 * ab (det h (fun i k => B i (col (sk 0 k)))) ≤ ab (det h W) * ab (det h (fun i k => B i (col (sk 0 k)))) := Int.mul_le_mul_of_nonneg_right hd1 (ab0 _)
      rw [hD] at h2 h1
      omega
    refine ⟨hPdM, fun hnl v hv X hX hrel => ?_⟩
    have hcd : ∀ a b, a < h + 1 → b < h + 1 → a ≠ b → col a ≠ col b := fun a b ha hb hne q => by
      have q2 : (if a = 0 then j else l (a - 1)) = (if b = 0 then j else l (b - 1)) := q
      by_cases e1 : a = 0
      · rw [if_pos e1, if_neg (by omega)] at q2
        exact hnl (b - 1) (by omega) q2.symm
      · rw [if_neg e1] at q2
        by_cases e2 : b = 0
        · rw [if_pos e2] at q2; exact hnl (a - 1) (by omega) q2
        · rw [if_neg e2] at q2
          rcases Nat.lt_or_ge a b with z | z
          · have := hE.2 (a - 1) (b - 1) (by omega) (by omega); omega
          · have := hE.2 (b - 1) (a - 1) (by omega) (by omega); omega
    have hGM : ∀ c, c < h + 1 → ab (det h (fun i k => B i (col (sk c k)))) ≤ M := fun c hc => by
      have h1 : ab (det h (fun i k => A (τ i) (col (sk c k)))) ≤ M := hMin h hh τ (fun k => col (sk c k)) hτ (hcol c) (fun i k hi hk hne q => hcd (sk c i) (sk c k) (by unfold sk; split <;> omega) (by unfold sk; split <;> omega) (by unfold sk; split <;> split <;> omega) q)
      rw [hGW c, ab_mul] at h1
      have h2 : 1 * ab (det h (fun i k => B i (col (sk c k)))) ≤ ab (det h W) * ab (det h (fun i k => B i (col (sk c k)))) := Int.mul_le_mul_of_nonneg_right hd1 (ab0 _)
      omega
    -- one row more than the rank: the determinant is 0
    obtain ⟨cv, hcv⟩ := hv
    have hcolw : ∀ k, k < h + 1 → col k < w := fun k hk => by
      show (if k = 0 then j else l (k - 1)) < w
      split
      · exact hj
      · exact hlw _ (by omega)
    have hPs : ML (h + 1) (fun u => det (h + 1) (fun i k => u i (col k))) := ml_sel (h + 1) col
    have hz : det (h + 1) (fun i k => cns v B i (col k)) = 0 := by
      have e1 := hPs.sum (cns v B) (i := 0) (by omega) cv B h
      have e2 : det (h + 1) (fun i k => upF (cns v B) 0 (fun j => Sg (fun k => cv k * B k j) h) i (col k)) = det (h + 1) (fun i k => cns v B i (col k)) := det_congr (fun i k hi hk => by
        unfold upF
        split
        · rename_i q
          rw [q]
          exact (hcv _ (hcolw k hk)).symm
        · rfl)
      rw [← e2]
      refine e1.trans (Sg_zero (fun k hk => ?_))
      have e3 := hPs.eq2 (i := 0) k (upF (cns v B) 0 (B k)) (by omega) (by
        rw [upF_self, upF_ne _ _ (by omega)]
        rw [show 0 + 1 + k = k + 1 by omega]
        rfl)
      rw [e3, Int.mul_zero]
    simp only [det] at hz
    rw [Sg_sk (k := 0) (by omega)] at hz
    have hm : ∀ c, det h (fun i k => cns v B (i + 1) (col (sk c k))) = det h (fun i k => B i (col (sk c k))) := fun c => rfl
    have hb2 : ab (Sg (fun m => sgI (sk 0 m) * cns v B 0 (col (sk 0 m)) * det h (fun i k => cns v B (i + 1) (col (sk (sk 0 m) k)))) h) ≤ (h : Int) * (X * ab (det h (fun i k => B i (col (sk 0 k)))) * M) := Sg_ab (fun m hmh => by
      rw [hm, ab_mul, ab_mul, ab_sgI, Int.one_mul, c0]
      have h1 := hrel m hmh
      have h2 := hPd.2 m hmh
      have h3 : ab (v (l m)) ≤ X * ab (det h (fun i k => B i (col (sk 0 k)))) := Int.le_trans h1 (Int.mul_le_mul_of_nonneg_left h2 hX)
      exact Int.mul_le_mul h3 (hGM _ (by rw [sk_ge (Nat.zero_le _)]; omega)) (ab0 _) (Int.le_trans (ab0 _) h3))
    have hv0 : cns v B 0 (col 0) = v j := rfl
    rw [hm 0, hv0] at hz
    have hz2 : ab (sgI 0 * v j * det h (fun i k => B i (col (sk 0 k)))) ≤ (h : Int) * (X * ab (det h (fun i k => B i (col (sk 0 k)))) * M) := by
      refine Int.le_trans ?_ hb2
      generalize Sg (fun m => sgI (sk 0 m) * cns v B 0 (col (sk 0 m)) * det h (fun i k => cns v B (i + 1) (col (sk (sk 0 m) k)))) h = S at hz ⊢
      generalize sgI 0 * v j * det h (fun i k => B i (col (sk 0 k))) = Q at hz ⊢
      unfold ab; omega
    rw [ab_mul, ab_mul, ab_sgI, Int.one_mul] at hz2
    have hDp : 0 < ab (det h (fun i k => B i (col (sk 0 k)))) := by have := hPd.1; omega
    generalize ab (det h (fun i k => B i (col (sk 0 k)))) = D at hz2 hDp
    have e4 : (h : Int) * (X * D * M) = X * ((h : Int) * M) * D := by
      rw [Int.mul_assoc X D, Int.mul_comm D, ← Int.mul_assoc X, ← Int.mul_assoc (h : Int), ← Int.mul_assoc (h : Int), Int.mul_comm (h : Int) X, Int.mul_assoc X (h : Int)]
    rw [e4] at hz2
    have h5 := Int.le_of_mul_le_mul_right hz2 hDp
    refine Int.le_trans h5 (Int.mul_le_mul_of_nonneg_left ?_ hX)
    exact Int.mul_le_mul_of_nonneg_right (by omega) (by omega)
  refine ⟨(key 0 hw).1, fun v hv X hX hrel j hj => ?_⟩
  by_cases e : ∀ m, m < h → l m ≠ j
  · exact (key j hj).2 e v hv X hX hrel
  · obtain ⟨m, hm2, e2⟩ : ∃ m, m < h ∧ l m = j := Classical.byContradiction (fun z => e (fun m h1 h2 => z ⟨m, h1, h2⟩))
    have h1 := hrel m hm2
    rw [e2] at h1
    have h2 := (Pd_ge (f := fun i => ab (B i (l i))) (n := h) (fun i hi => by have := (hE.1 i hi).2.1; show 1 ≤ ab (B i (l i)); unfold ab; omega)).2 m hm2
    have h3 : ab (B m (l m)) ≤ M := Int.le_trans h2 (key 0 hw).1
    rw [e2] at h3
    have h4 : 1 * M ≤ (hm : Int) * M := Int.mul_le_mul_of_nonneg_right (by omega) (by omega)
    exact Int.le_trans h1 (Int.mul_le_mul_of_nonneg_left (by omega) hX)
theorem Sg_le {f h : Nat → Int} : ∀ {n : Nat}, (∀ i, i < n → f i ≤ h i) → Sg f n ≤ Sg h n
  | 0, _ => Int.le_refl _
  | n + 1, q => by
    simp only [Sg]
    have := Sg_le (f := f) (h := h) (n := n) (fun i hi => q i (by omega))
    have := q n (by omega)
    omega
theorem ab_add (x y : Int) : ab (x + y) ≤ ab x + ab y := by unfold ab; omega
theorem Sg_abs (f : Nat → Int) : ∀ n : Nat, ab (Sg f n) ≤ Sg (fun i => ab (f i)) n
  | 0 => Int.le_refl _
  | n + 1 => by
    simp only [Sg]
    have := Sg_abs f n
    have := ab_add (Sg f n) (f n)
    omega
/-- at most one of the numbers is not 0 -/
theorem Sg_at1 {f : Nat → Int} : ∀ {n : Nat}, (∀ i, i < n → 0 ≤ f i ∧ f i ≤ 1) → (∀ i k, i < n → k < n → i ≠ k → f i = 0 ∨ f k = 0) → Sg f n ≤ 1
  | 0, _, _ => by simp [Sg]
  | n + 1, h1, h2 => by
    simp only [Sg]
    have ih := Sg_at1 (f := f) (n := n) (fun i hi => h1 i (by omega)) (fun i k hi hk => h2 i k (by omega) (by omega))
    have hn := h1 n (by omega)
    by_cases e : f n = 0
    · omega
    · rw [Sg_zero (fun i hi => (h2 i n (by omega) (by omega) (by omega)).resolve_right e)]
      omega
def FT (b : Int) : Nat → Nat → Int
  | 0, _ => 1
  | n + 1, 0 => FT b n 0
  | n + 1, t + 1 => ((t : Int) + 1) * b * FT b n t + FT b n (t + 1)
theorem FT_pos {b : Int} (hb : 1 ≤ b) : ∀ n t, 1 ≤ FT b n t
  | 0, _ => Int.le_refl _
  | n + 1, 0 => FT_pos hb n 0
  | n + 1, t + 1 => by
    simp only [FT]
    have h1 := FT_pos hb n t
    have h2 := FT_pos hb n (t + 1)
    have : 0 ≤ ((t : Int) + 1) * b * FT b n t := Int.mul_nonneg (Int.mul_nonneg (by omega) (by omega)) (by omega)
    omega
theorem FT_up {b : Int} (hb : 1 ≤ b) (n t : Nat) : FT b n t ≤ FT b (n + 1) t := by
  cases t with
  | zero => simp only [FT]; exact Int.le_refl _
  | succ t =>
    simp only [FT]
    have h1 := FT_pos hb n t
    have : 0 ≤ ((t : Int) + 1) * b * FT b n t := Int.mul_nonneg (Int.mul_nonneg (by omega) (by omega)) (by omega)
    omega
theorem FT_le {b : Int} (hb : 1 ≤ b) (t : Nat) {h : Nat} : ∀ {n : Nat}, h ≤ n → FT b h t ≤ FT b n t
  | 0, hn => by obtain rfl : h = 0 := by omega
                exact Int.le_refl _
  | n + 1, hn => by
    by_cases e : h = n + 1
    · rw [e]; exact Int.le_refl _
    · exact Int.le_trans (FT_le hb t (n := n) (by omega)) (FT_up hb n t)
def tI (s : Nat → Nat) : Nat → Int := fun k => if s k < 5 then 1 else 0
theorem tu_det {b : Int} (hb : 1 ≤ b) : ∀ (n t : Nat) (A : Mat) (s : Nat → Nat), Sg (tI s) n ≤ (t : Int) → (∀ i k, i < n → k < n → s k < 5 → ab (A i k) ≤ b) → (∀ i k, i < n → k < n → ¬ s k < 5 → ab (A i k) ≤ 1) → (∀ i k k', i < n → k < n → k' < n → k ≠ k' → ¬ s k < 5 → ¬ s k' < 5 → A i k = 0 ∨ A i k' = 0) → ab (det n A) ≤ FT b n t
  | 0, t, A, s, _, _, _, _ => by
    show ab (1 : Int) ≤ 1
    decide
  | n + 1, t, A, s, hc, h1, h2, h3 => by
    simp only [det]
    refine Int.le_trans (Sg_abs _ _) ?_
    have hmin : ∀ k, k < n + 1 → ∀ t' : Nat, Sg (tI (fun i => s (sk k i))) n ≤ (t' : Int) → ab (det n (fun i j => A (i + 1) (sk k j))) ≤ FT b n t' := fun k hk t' ht' => tu_det hb n t' _ (fun i => s (sk k i)) ht' (fun i j hi hj q => h1 (i + 1) _ (by omega) (by unfold sk; split <;> omega) q) (fun i j hi hj q => h2 (i + 1) _ (by omega) (by unfold sk; split <;> omega) q) (fun i j j' hi hj hj' hne q q' => h3 (i + 1) _ _ (by omega) (by unfold sk; split <;> omega) (by unfold sk; split <;> omega) (by unfold sk; split <;> split <;> omega) q q')
    have hcs : ∀ k, k < n + 1 → Sg (tI s) (n + 1) = Sg (tI (fun i => s (sk k i))) n + tI s k := fun k hk => Sg_sk (f := tI s) hk
    have hF := FT_pos hb n t
    have hu : Sg (fun k => if s k < 5 then 0 else ab (A 0 k)) (n + 1) ≤ 1 := Sg_at1 (fun k hk => by
      show 0 ≤ (if s k < 5 then 0 else ab (A 0 k)) ∧ (if s k < 5 then 0 else ab (A 0 k)) ≤ 1
      split
      · omega
      · exact ⟨ab0 _, h2 0 k (by omega) hk (by assumption)⟩) (fun k k' hk hk' hne => by
      show (if s k < 5 then 0 else ab (A 0 k)) = 0 ∨ (if s k' < 5 then 0 else ab (A 0 k')) = 0
      by_cases e1 : s k < 5
      · exact Or.inl (if_pos e1)
      · by_cases e2 : s k' < 5
        · exact Or.inr (if_pos e2)
        · rw [if_neg e1, if_neg e2]
          exact (h3 0 k k' (by omega) hk hk' hne e1 e2).imp (fun q => by rw [q]; rfl) (fun q => by rw [q]; rfl))
    cases t with
    | zero =>
      have hno : ∀ k, k < n + 1 → ¬ s k < 5 := fun k hk q => by
        have e := hcs k hk
        have e2 : tI s k = 1 := if_pos q
        have e3 : 0 ≤ Sg (tI (fun i => s (sk k i))) n := by
          have : Sg (fun _ => (0 : Int)) n ≤ Sg (tI (fun i => s (sk k i))) n := Sg_le (fun i _ => by unfold tI; split <;> omega)
          rw [Sg_zero (fun _ _ => rfl)] at this
          exact this
        omega
      have h4 : Sg (fun i => ab (sgI i * A 0 i * det n (fun i' j => A (i' + 1) (sk i j)))) (n + 1) ≤ Sg (fun k => (if s k < 5 then 0 else ab (A 0 k)) * FT b n 0) (n + 1) := Sg_le (fun k hk => by
        show ab (sgI k * A 0 k * det n (fun i' j => A (i' + 1) (sk k j))) ≤ (if s k < 5 then 0 else ab (A 0 k)) * FT b n 0
        rw [if_neg (hno k hk), ab_mul, ab_mul, ab_sgI, Int.one_mul]
        refine Int.mul_le_mul_of_nonneg_left (hmin k hk 0 ?_) (ab0 _)
        have e := hcs k hk
        have e2 : 0 ≤ tI s k := by unfold tI; split <;> omega
        omega)
      rw [Sg_mulr] at h4
      have h5 : Sg (fun k => if s k < 5 then 0 else ab (A 0 k)) (n + 1) * FT b n 0 ≤ 1 * FT b n 0 := Int.mul_le_mul_of_nonneg_right hu (by omega)
      show _ ≤ FT b n 0
      omega
    | succ t =>
      have hF1 := FT_pos hb n t
      have h4 : Sg (fun i => ab (sgI i * A 0 i * det n (fun i' j => A (i' + 1) (sk i j)))) (n + 1) ≤ Sg (fun k => (b * FT b n t) * tI s k + FT b n (t + 1) * (if s k < 5 then 0 else ab (A 0 k))) (n + 1) := Sg_le (fun k hk => by
        show ab (sgI k * A 0 k * det n (fun i' j => A (i' + 1) (sk k j))) ≤ (b * FT b n t) * tI s k + FT b n (t + 1) * (if s k < 5 then 0 else ab (A 0 k))
        rw [ab_mul, ab_mul, ab_sgI, Int.one_mul]
        have e := hcs k hk
        by_cases q : s k < 5
        · have e2 : tI s k = 1 := if_pos q
          rw [if_pos q, e2, Int.mul_one, Int.mul_zero, Int.add_zero]
          exact Int.mul_le_mul (h1 0 k (by omega) hk q) (hmin k hk t (by omega)) (ab0 _) (by omega)
        · have e2 : tI s k = 0 := if_neg q
          rw [if_neg q, e2, Int.mul_zero, Int.zero_add, Int.mul_comm (FT b n (t + 1))]
          exact Int.mul_le_mul_of_nonneg_left (hmin k hk (t + 1) (by omega)) (ab0 _))
      rw [Sg_lin] at h4
      have h5 : b * FT b n t * Sg (tI s) (n + 1) ≤ b * FT b n t * ((t : Int) + 1) := Int.mul_le_mul_of_nonneg_left (by omega) (Int.mul_nonneg (by omega) (by omega))
      have h6 : FT b n (t + 1) * Sg (fun k => if s k < 5 then 0 else ab (A 0 k)) (n + 1) ≤ FT b n (t + 1) * 1 := Int.mul_le_mul_of_nonneg_left hu (by omega)
      have h7 : b * FT b n t * ((t : Int) + 1) = ((t : Int) + 1) * b * FT b n t := by rw [Int.mul_comm, ← Int.mul_assoc]
      simp only [FT]
      omega
theorem tI5 {s : Nat → Nat} {n : Nat} (hs : ∀ i k, i < n → k < n → i ≠ k → s i ≠ s k) : Sg (tI s) n ≤ 5 := by
  have h1 : ∀ v : Nat, Sg (fun k => if s k = v then 1 else 0) n ≤ 1 := fun v => Sg_at1 (fun k _ => by show 0 ≤ (if s k = v then (1 : Int) else 0) ∧ (if s k = v then (1 : Int) else 0) ≤ 1; split <;> omega) (fun i k hi hk hne => by
    show (if s i = v then (1 : Int) else 0) = 0 ∨ (if s k = v then (1 : Int) else 0) = 0
    by_cases e : s i = v
    · exact Or.inr (if_neg (fun q => hs i k hi hk hne (e.trans q.symm)))
    · exact Or.inl (if_neg e))
  have h2 : Sg (tI s) n = Sg (fun k => 1 * (if s k = 0 then 1 else 0) + 1 * (1 * (if s k = 1 then 1 else 0) + 1 * (1 * (if s k = 2 then 1 else 0) + 1 * (1 * (if s k = 3 then 1 else 0) + 1 * (if s k = 4 then 1 else 0))))) n := Sg_congr (fun k _ => by
    unfold tI
    by_cases a0 : s k = 0
    · rw [a0]; decide
    · by_cases a1 : s k = 1
      · rw [a1]; decide
      · by_cases a2 : s k = 2
        · rw [a2]; decide
        · by_cases a3 : s k = 3
          · rw [a3]; decide
          · by_cases a4 : s k = 4
            · rw [a4]; decide
            · rw [if_neg (by omega), if_neg a0, if_neg a1, if_neg a2, if_neg a3, if_neg a4]; decide)
  rw [h2, Sg_lin, Sg_lin (fun k => if s k = 1 then 1 else 0), Sg_lin (fun k => if s k = 2 then 1 else 0), Sg_lin (fun k => if s k = 3 then 1 else 0)]
  have := h1 0
  have := h1 1
  have := h1 2
  have := h1 3
  have := h1 4
  omega
/-- rows (T_i, e_i) in 15 columns -/
def GTx (N : Mat) : Mat := fun i j => if j < 5 then N i j else if j - 5 = i then 1 else 0
def TM10 : Int := FT 1000 10 5
theorem tm10 : 1 ≤ TM10 := FT_pos (by omega) 10 5
theorem tu_lbm {N : Mat} {n : Nat} (hN : ∀ i j, i < n → j < 5 → ab (N i j) ≤ 1000) : LBM (GTx N) n 15 10 (10 * TM10) TM10 := by
  refine lbm_of (hm := 10) tm10 (by omega) (by omega) (fun h hh τ s hτ hs hi => ?_)
  refine Int.le_trans (tu_det (b := 1000) (by omega) h 5 _ s (tI5 hi) (fun i k hi' hk q => ?_) (fun i k hi' hk q => ?_) (fun i k k' hi' hk hk' hne q q' => ?_)) (FT_le (by omega) 5 hh)
  · show ab (GTx N (τ i) (s k)) ≤ 1000
    unfold GTx
    rw [if_pos q]
    exact hN _ _ (hτ i hi') q
  · show ab (GTx N (τ i) (s k)) ≤ 1
    unfold GTx
    rw [if_neg q]
    split <;> decide
  · show GTx N (τ i) (s k) = 0 ∨ GTx N (τ i) (s k') = 0
    unfold GTx
    rw [if_neg q, if_neg q']
    by_cases e : s k - 5 = τ i
    · exact Or.inr (if_neg (fun z => hi k k' hk hk' hne (by omega)))
    · exact Or.inl (if_neg e)
theorem tu_sm : SmM (BgT 1000 TM10 (10 * TM10)) := by
  unfold SmM
  decide +kernel

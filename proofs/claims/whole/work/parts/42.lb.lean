/-! ===== bounds of lattices of small rows ===== -/
theorem ml_sel (n : Nat) (s : Nat → Nat) : ML n (fun u => det n (fun i k => u i (s k))) := by
  have h := ml_det n
  refine ⟨fun u v q => det_congr (fun i j hi _ => by rw [q i hi]), fun u i a b x y hi => ?_, fun u i hi q => ?_⟩
  · have e : ∀ z : Nat → Int, det n (fun i' k => upF u i z i' (s k)) = det n (upF (fun i' k => u i' (s k)) i (fun k => z (s k))) := fun z => det_congr (fun i' j hi' _ => by
      unfold upF; split <;> rfl)
    show det n _ = a * det n _ + b * det n _
    rw [e, e, e]
    exact h.2.1 _ i a b (fun k => x (s k)) (fun k => y (s k)) hi
  · exact h.2.2 (fun i' k => u i' (s k)) i hi (by funext k; rw [q])
/-- a form that is 0 on all choices of generators is 0 on what they reach -/
theorem ml_van {h n : Nat} {F : Mat → Int} (hF : ML h F) {A : Mat} (h0 : ∀ τ : Nat → Nat, (∀ i, i < h → τ i < n) → F (fun i => A (τ i)) = 0) (c : Mat) : ∀ t, t ≤ h → ∀ τ : Nat → Nat, (∀ i, t ≤ i → i < h → τ i < n) → F (fun i => if i < t then (fun j => Sg (fun k => c i k * A k j) n) else A (τ i)) = 0
  | 0, _, τ, hτ => by
    rw [← h0 τ (fun i hi => hτ i (Nat.zero_le _) hi)]
    exact hF.1 _ _ (fun i hi => by rw [if_neg (by omega)])
  | t + 1, ht, τ, hτ => by
    have e := hF.sum (fun i => if i < t + 1 then (fun j => Sg (fun k => c i k * A k j) n) else A (τ i)) (i := t) (by omega) (c t) A n
    rw [upF_idd _ (by rw [if_pos (by omega)])] at e
    rw [e]
    refine Sg_zero (fun k hk => ?_)
    have e2 : F (upF (fun i => if i < t + 1 then (fun j => Sg (fun k => c i k * A k j) n) else A (τ i)) t (A k)) = F (fun i => if i < t then (fun j => Sg (fun k => c i k * A k j) n) else A (upF τ t k i)) := hF.1 _ _ (fun i hi => by
      unfold upF
      by_cases h1 : i = t
      · rw [if_pos h1, if_neg (by omega), if_pos h1]
      · rw [if_neg h1]
        by_cases h2 : i < t
        · rw [if_pos h2]; show (if i < t + 1 then (fun j => Sg (fun k => c i k * A k j) n) else A (τ i)) = _; rw [if_pos (by omega)]
        · rw [if_neg h2, if_neg h1]; show (if i < t + 1 then (fun j => Sg (fun k => c i k * A k j) n) else A (τ i)) = _; rw [if_neg (by omega)])
    rw [e2, ml_van hF h0 c t (by omega) (upF τ t k) (fun i h1 h2 => by
      unfold upF
      split
      · exact hk
      · exact hτ i (by omega) h2), Int.mul_zero]
theorem Pd_ab (f : Nat → Int) : ∀ n, ab (Pd f n) = Pd (fun i => ab (f i)) n
  | 0 => rfl
  | n + 1 => by
    simp only [Pd]
    rw [ab_mul, Pd_ab f n]
theorem Pd_ge {f : Nat → Int} : ∀ {n : Nat}, (∀ i, i < n → 1 ≤ f i) → 1 ≤ Pd f n ∧ ∀ i, i < n → f i ≤ Pd f n
  | 0, _ => ⟨Int.le_refl _, fun i hi => absurd hi (by omega)⟩
  | n + 1, h => by
    obtain ⟨h1, h2⟩ := Pd_ge (f := f) (n := n) (fun i hi => h i (by omega))
    have h3 := h n (by omega)
    simp only [Pd]
    have e1 : 1 * 1 ≤ Pd f n * f n := Int.mul_le_mul h1 h3 (by omega) (by omega)
    have e2 : Pd f n * 1 ≤ Pd f n * f n := Int.mul_le_mul_of_nonneg_left h3 (by omega)
    have e3 : 1 * f n ≤ Pd f n * f n := Int.mul_le_mul_of_nonneg_right h1 (by omega)
    refine ⟨by omega, fun i hi => ?_⟩
    by_cases hq : i = n
    · subst hq; omega
    · have := h2 i (by omega); omega
theorem fb_mono {b : Int} (hb : 1 ≤ b) {h : Nat} : ∀ {w : Nat}, h ≤ w → fac h * b ^ h ≤ fac w * b ^ w ∧ 1 ≤ fac w * b ^ w
  | 0, hh => by
    obtain rfl : h = 0 := by omega
    exact ⟨Int.le_refl _, by simp [fac]⟩
  | w + 1, hh => by
    have e : fac (w + 1) * b ^ (w + 1) = ((w : Int) + 1) * b * (fac w * b ^ w) := by
      show ((w : Int) + 1) * fac w * b ^ (w + 1) = _
      rw [Int.pow_succ, Int.mul_assoc, Int.mul_assoc]
      congr 1
      rw [← Int.mul_assoc, Int.mul_comm]
    have e1 : 1 * 1 ≤ ((w : Int) + 1) * b := Int.mul_le_mul (by omega) hb (by omega) (by omega)
    have e0 : 1 ≤ fac w * b ^ w := (fb_mono (h := w) hb (Nat.le_refl _)).2
    have e2 : 1 * (fac w * b ^ w) ≤ ((w : Int) + 1) * b * (fac w * b ^ w) := Int.mul_le_mul_of_nonneg_right (by omega) (by omega)
    rw [e]
    by_cases hq : h = w + 1
    · subst hq
      rw [e]
      exact ⟨Int.le_refl _, by omega⟩
    · have := (fb_mono (h := h) (w := w) hb (by omega)).1
      exact ⟨by omega, by omega⟩
/-- the bound of a lattice whose rows have numbers up to b -/
def KB (w : Nat) (b : Int) : Int := ((w : Int) + 1) * (fac w * b ^ w)
theorem KB.one {w : Nat} {b : Int} (hb : 1 ≤ b) : 1 ≤ KB w b := by
  have h := (fb_mono (h := w) hb (Nat.le_refl _)).2
  have e : 1 * 1 ≤ ((w : Int) + 1) * (fac w * b ^ w) := Int.mul_le_mul (by omega) h (by omega) (by omega)
  exact e
theorem lb_of {A : Mat} {n w : Nat} {b : Int} (hb : 1 ≤ b) (hA : ∀ i j, i < n → j < w → ab (A i j) ≤ b) : LB A n w (KB w b) := by
  intro B h l hE hsp v hv X hX hrel j hj
  have hhw := hE.le_w
  have hlw : ∀ m, m < h → l m < w := fun m hm => (hE.1 m hm).1
  let col : Nat → Nat := fun k => if k = 0 then j else l (k - 1)
  have hcol : ∀ c k, k < h → col (sk c k) < w := fun c k hk => by
    show (if sk c k = 0 then j else l (sk c k - 1)) < w
    split
    · exact hj
    · refine hlw _ ?_
      revert k
      intro k hk h0
      unfold sk at h0 ⊢
      split at h0 <;> split <;> omega
  have hG : ∀ c, ML h (fun u => det h (fun i k => u i (col (sk c k)))) := fun c => ml_sel h (fun k => col (sk c k))
  have c0 : ∀ k, col (sk 0 k) = l k := fun k => by
    show (if sk 0 k = 0 then j else l (sk 0 k - 1)) = l k
    rw [sk_ge (Nat.zero_le _), if_neg (by omega)]
    rfl
  -- the minor of the leads
  have hFB : det h (fun i k => B i (col (sk 0 k))) = Pd (fun i => B i (l i)) h := by
    rw [← det_T]
    rw [det_low (fun i k hik hk => by rw [c0]; exact (hE.1 k hk).2.2 _ (hE.2 i k hik hk))]
    exact congrArg (fun f => Pd f h) (funext (fun i => congrArg (B i) (c0 i)))
  have hone : ∀ i, i < h → 1 ≤ ab (B i (l i)) := fun i hi => by
    have := (hE.1 i hi).2.1
    unfold ab; omega
  have hD : ab (det h (fun i k => B i (col (sk 0 k)))) = Pd (fun i => ab (B i (l i))) h := by rw [hFB, Pd_ab]
  have hPd := Pd_ge (f := fun i => ab (B i (l i))) (n := h) hone
  rw [← hD] at hPd
  -- some choice of generators has a minor that is not 0
  have hex : ∃ τ : Nat → Nat, (∀ i, i < h → τ i < n) ∧ det h (fun i k => A (τ i) (col (sk 0 k))) ≠ 0 := by
    refine Classical.byContradiction (fun hno => ?_)
    have h0 : ∀ τ : Nat → Nat, (∀ i, i < h → τ i < n) → det h (fun i k => A (τ i) (col (sk 0 k))) = 0 := fun τ hτ => Classical.byContradiction (fun q => hno ⟨τ, hτ, q⟩)
    have hc : ∀ i, ∃ c : Nat → Int, i < h → ∀ j, j < w → B i j = Sg (fun k => c k * A k j) n := fun i => by
      by_cases hi : i < h
      · obtain ⟨c, hc⟩ := (hsp (B i)).mpr (Span.row hi)
        exact ⟨c, fun _ => hc⟩
      · exact ⟨fun _ => 0, fun q => absurd q hi⟩
    obtain ⟨c, hc⟩ := Classical.axiomOfChoice hc
    have h1 := ml_van (hG 0) (A := A) (n := n) h0 c h (Nat.le_refl _) (fun _ => 0) (fun i h1 h2 => absurd h1 (by omega))
    have h2 : det h (fun i k => B i (col (sk 0 k))) = 0 := by
      rw [← h1]
      refine det_congr (fun i k hi hk => ?_)
      show _ = (if i < h then (fun j => Sg (fun k => c i k * A k j) n) else A 0) (col (sk 0 k))
      rw [if_pos hi]
      exact hc i hi _ (hcol 0 k hk)
    rw [h2] at hPd
    have : ab (0 : Int) = 0 := rfl
    omega
  obtain ⟨τ, hτ, hτ0⟩ := hex
  have hW : ∀ i, ∃ c : Nat → Int, i < h → ∀ j, j < w → A (τ i) j = Sg (fun k => c k * B k j) h := fun i => by
    by_cases hi : i < h
    · obtain ⟨c, hc⟩ := (hsp (A (τ i))).mp (Span.row (hτ i hi))
      exact ⟨c, fun _ => hc⟩
    · exact ⟨fun _ => 0, fun q => absurd q hi⟩
  obtain ⟨W, hW⟩ := Classical.axiomOfChoice hW
  have hGW : ∀ c, det h (fun i k => A (τ i) (col (sk c k))) = det h W * det h (fun i k => B i (col (sk c k))) := fun c => by
    rw [← ml_main h (hG c) W B]
    exact det_congr (fun i k hi hk => hW i hi _ (hcol c k hk))
  have hd1 : 1 ≤ ab (det h W) := by
    rw [hGW 0] at hτ0
    have : det h W ≠ 0 := fun q => hτ0 (by rw [q, Int.zero_mul])
    unfold ab; omega
  have hGM : ∀ c, ab (det h (fun i k => B i (col (sk c k)))) ≤ fac h * b ^ h := fun c => by
    have h1 : ab (det h (fun i k => A (τ i) (col (sk c k)))) ≤ fac h * b ^ h := det_ab (by omega) (fun i k hi hk => hA _ _ (hτ i hi) (hcol c k hk))
    rw [hGW c, ab_mul] at h1
    have h2 : 1 * ab (det h (fun i k => B i (col (sk c k)))) ≤ ab (det h W) * ab (det h (fun i k => B i (col (sk c k)))) := Int.mul_le_mul_of_nonneg_right hd1 (ab0 _)
    omega
  -- one row more than the rank: the determinant is 0
  obtain ⟨cv, hcv⟩ := hv
  have hcolw : ∀ k, k < h + 1 → col k < w := fun k hk => by
    show (if k = 0 then j else l (k - 1)) < w
    split
    · exact hj
    · exact hlw _ (by omega)
  have hPs : ML (h + 1) (fun u => det (h + 1) (fun i k => u i (col k))) := ml_sel (h + 1) col
  have hz : det (h + 1) (fun i k => cns v B i (col k)) = 0 := by
    have e1 := hPs.sum (cns v B) (i := 0) (by omega) cv B h
    have e2 : det (h + 1) (fun i k => upF (cns v B) 0 (fun j => Sg (fun k => cv k * B k j) h) i (col k)) = det (h + 1) (fun i k => cns v B i (col k)) := det_congr (fun i k hi hk => by
      unfold upF
      split
      · rename_i q
        rw [q]
        exact (hcv _ (hcolw k hk)).symm
      · rfl)
    rw [← e2]
    refine e1.trans (Sg_zero (fun k hk => ?_))
    have e3 := hPs.eq2 (i := 0) k (upF (cns v B) 0 (B k)) (by omega) (by
      rw [upF_self, upF_ne _ _ (by omega)]
      rw [show 0 + 1 + k = k + 1 by omega]
      rfl)
    rw [e3, Int.mul_zero]
  simp only [det] at hz
  rw [Sg_sk (k := 0) (by omega)] at hz
  have hm : ∀ c, det h (fun i k => cns v B (i + 1) (col (sk c k))) = det h (fun i k => B i (col (sk c k))) := fun c => rfl
  have hb2 : ab (Sg (fun m => sgI (sk 0 m) * cns v B 0 (col (sk 0 m)) * det h (fun i k => cns v B (i + 1) (col (sk (sk 0 m) k)))) h) ≤ (h : Int) * (X * ab (det h (fun i k => B i (col (sk 0 k)))) * (fac h * b ^ h)) := Sg_ab (fun m hmh => by
    rw [hm, ab_mul, ab_mul, ab_sgI, Int.one_mul, c0]
    have h1 := hrel m hmh
    have h2 := hPd.2 m hmh
    have h3 : ab (v (l m)) ≤ X * ab (det h (fun i k => B i (col (sk 0 k)))) := Int.le_trans h1 (Int.mul_le_mul_of_nonneg_left h2 hX)
    exact Int.mul_le_mul h3 (hGM _) (ab0 _) (Int.le_trans (ab0 _) h3))
  have hv0 : cns v B 0 (col 0) = v j := rfl
  rw [hm 0, hv0] at hz
  have hz2 : ab (sgI 0 * v j * det h (fun i k => B i (col (sk 0 k)))) ≤ (h : Int) * (X * ab (det h (fun i k => B i (col (sk 0 k)))) * (fac h * b ^ h)) := by
    refine Int.le_trans ?_ hb2
    generalize Sg (fun m => sgI (sk 0 m) * cns v B 0 (col (sk 0 m)) * det h (fun i k => cns v B (i + 1) (col (sk (sk 0 m) k)))) h = S at hz ⊢
    generalize sgI 0 * v j * det h (fun i k => B i (col (sk 0 k))) = Q at hz ⊢
    unfold ab; omega
  rw [ab_mul, ab_mul, ab_sgI, Int.one_mul] at hz2
  have hDp : 0 < ab (det h (fun i k => B i (col (sk 0 k)))) := by have := hPd.1; omega
  generalize ab (det h (fun i k => B i (col (sk 0 k)))) = D at hz2 hDp
  have hfb := fb_mono hb hhw
  have hfh := (fb_mono hb (Nat.le_refl h)).2
  have e4 : (h : Int) * (X * D * (fac h * b ^ h)) = X * ((h : Int) * (fac h * b ^ h)) * D := by
    rw [Int.mul_assoc X D, Int.mul_comm D, ← Int.mul_assoc X, ← Int.mul_assoc (h : Int), ← Int.mul_assoc (h : Int), Int.mul_comm (h : Int) X, Int.mul_assoc X (h : Int)]
  rw [e4] at hz2
  have h5 := Int.le_of_mul_le_mul_right hz2 hDp
  refine Int.le_trans h5 (Int.mul_le_mul_of_nonneg_left ?_ hX)
  exact Int.mul_le_mul (by omega) hfb.1 (by omega) (by omega)

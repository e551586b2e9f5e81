/-! ===== the reference: a row comes into a STAIR of five columns; mathematics alone ===== -/
def XB : Int := 50000 * TM10
def MB : Int := 24 * XB ^ 4
def KB4 : Int := ((4 : Nat) : Int) * MB
def BB : Int := (3 * (16 * XB * MB)) ^ 4 * (2 * XB * (MB * KB4)) * KB4
theorem xb1 : 24000000000000 ≤ XB := by unfold XB; decide +kernel
theorem mb1 : 1 ≤ MB := by unfold MB XB; decide +kernel
theorem kb41 : MB ≤ KB4 := by have := mb1; unfold KB4; omega
theorem bb_sm : SmM BB := by
  unfold SmM BB KB4 MB XB
  decide +kernel
theorem gs_sm : SmM (16 * XB * MB * KB4) := by
  unfold SmM KB4 MB XB
  decide +kernel
theorem lbm5 {N : Mat} {n : Nat} (hN : ∀ i j, i < n → j < 5 → ab (N i j) ≤ XB) : LBM N n 5 4 KB4 MB := by
  have hx := xb1
  refine lbm_of mb1 (by omega) (by omega) (fun h hh τ s hτ hs _ => ?_)
  have h1 := det_ab (b := XB) (by omega) (n := h) (A := fun i k => N (τ i) (s k)) (fun i j hi hj => hN _ _ (hτ i hi) (hs j hj))
  have h2 := (fb_mono (b := XB) (by omega) hh).1
  have h3 : fac 4 = 24 := by decide
  rw [h3] at h2
  exact Int.le_trans h1 h2
theorem er_w {e b : Nat → Int} {Y Z : Int} {h : Nat} (hY : 1 ≤ Y) (hZ : 1 ≤ Z) (h0 : e 0 ≤ Z * b 0) (he : ∀ i, i < h → 1 ≤ e i ∧ e i ≤ Y ∧ 1 ≤ b i) : ∀ i, i + 1 ≤ h → er e b (i + 1) ≤ (3 * Y) ^ i * (Z * Pd b (i + 1))
  | 0, hi => by
    show (if (0 : Nat) = 0 then e 0 else _) ≤ _
    rw [if_pos rfl, Int.pow_zero, Int.one_mul]
    show e 0 ≤ Z * (1 * b 0)
    rw [Int.one_mul]
    exact h0
  | i + 1, hi => by
    have h1 := er_w hY hZ h0 he i (by omega)
    obtain ⟨a1, a2, a3⟩ := he (i + 1) (by omega)
    have hp := (er_ge (fun i hi => ⟨(he i hi).1, (he i hi).2.2⟩) (i + 1) (show i + 1 ≤ h by omega)).1
    have hE : er e b (i + 1 + 1) = 3 * er e b (i + 1) * e (i + 1) * b (i + 1) := by
      show (if i + 1 = 0 then e 0 else 3 * er e b (i + 1) * e (i + 1) * b (i + 1)) = _
      rw [if_neg (by omega)]
    have hP : Pd b (i + 1 + 1) = Pd b (i + 1) * b (i + 1) := rfl
    rw [hE, Int.pow_succ, hP]
    generalize er e b (i + 1) = E at *
    generalize (3 * Y) ^ i = W at *
    generalize Pd b (i + 1) = P at *
    have d1 : E * e (i + 1) ≤ W * (Z * P) * Y := Int.mul_le_mul h1 a2 (by omega) (by omega)
    have d2 : E * e (i + 1) * b (i + 1) ≤ W * (Z * P) * Y * b (i + 1) := Int.mul_le_mul_of_nonneg_right d1 (by omega)
    have e1 : 3 * E * e (i + 1) * b (i + 1) = 3 * (E * e (i + 1) * b (i + 1)) := by rw [Int.mul_assoc 3, Int.mul_assoc 3]
    have e2 : W * (3 * Y) * (Z * (P * b (i + 1))) = 3 * (W * (Z * P) * Y * b (i + 1)) := by ac_rfl
    rw [e1, e2]
    omega
theorem Pd_ins {F : Nat → Int} {y : Int} {s : Nat} : ∀ h, s ≤ h → Pd (insF F s h y) (h + 1) = Pd F h * y
  | 0, hs => by
    show 1 * insF F s 0 y 0 = 1 * y
    rw [show insF F s 0 y 0 = y by unfold insF; rw [if_pos (by omega)]]
  | h + 1, hs => by
    show Pd (insF F s (h + 1) y) (h + 1) * insF F s (h + 1) y (h + 1) = Pd F h * F h * y
    by_cases e : s = h + 1
    · rw [show insF F s (h + 1) y (h + 1) = y by unfold insF; rw [if_pos (by omega)], Pd_congr (f := insF F s (h + 1) y) (f' := F) (fun i hi => by unfold insF; rw [if_neg (by omega), if_neg (by omega)])]
      rfl
    · rw [show insF F s (h + 1) y (h + 1) = F h by unfold insF; rw [if_neg (by omega), if_pos (by omega)]; rfl, Pd_congr (f := insF F s (h + 1) y) (f' := insF F s h y) (fun i hi => by
        unfold insF
        by_cases a : i = s
        · rw [if_pos a, if_pos a]
        · rw [if_neg a, if_neg a]
          by_cases c : s < i
          · rw [if_pos (by omega), if_pos (by omega)]
          · rw [if_neg (by omega), if_neg (by omega)]), Pd_ins h (by omega), Int.mul_assoc, Int.mul_comm y, Int.mul_assoc]
theorem insF_map {β : Nat → Int} {l : Nat → Nat} {s h j : Nat} : (fun n => β (insF l s h j n)) = insF (fun n => β (l n)) s h (β j) := by
  funext n
  unfold insF
  split
  · rfl
  · split <;> rfl
/-- the STAIR of five columns stands among fifteen -/
def Z15 (zs : Nat → Int) (r : Nat) : Prop := ∀ i t, i < r → 5 ≤ t → t < 15 → zs (15 * i + t) = 0
theorem gpr5 {zs : Nat → Int} {r : Nat} {l : Nat → Nat} (hst : Stair (BMx 0 15 zs) r 5 l) (hz : Z15 zs r) (hr : r ≤ 4) (hL : LBM (BMx 0 15 zs) r 5 4 KB4 MB) (hc : ∀ t, t < 5 → ab (zs (150 + t)) ≤ XB) (hc0 : ∀ t, 5 ≤ t → t < 15 → zs (150 + t) = 0) : ∃ β : Nat → Int, GPr (GMx 0 15 r zs) r 15 5 l β XB ∧ (∀ t, 1 ≤ β t ∧ β t ≤ KB4) ∧ (1 ≤ Pd (fun i => β (l i)) r ∧ Pd (fun i => β (l i)) r ≤ MB) ∧ ∀ k, k < r → GMx 0 15 r zs k (l k) = β (l k) := by
  have hx := xb1
  have hm := mb1
  have hk := kb41
  obtain ⟨β, hβ, hβ2, hβ3⟩ := wts hst (show 1 ≤ KB4 by omega) (fun i j hi hj => hst.bdm hL SpEq.rf hr hi hj)
  have hrow : ∀ i, i < r → GMx 0 15 r zs i = BMx 0 15 zs i := fun i hi => gm_row hi
  have hPd : Pd (fun i => β (l i)) r = Pd (fun i => ab (BMx 0 15 zs i (l i))) r := Pd_congr (fun i hi => by rw [hβ2 i hi, ab_pos (by have := hst.2.1 i hi; omega)])
  refine ⟨β, ⟨fun i hi => ?_, hst.1.2, fun t => (hβ t).1, by omega, by omega, fun t ht => ?_⟩, hβ, ⟨Pd_pos (fun i _ => (hβ (l i)).1), by rw [hPd]; exact (hL _ _ _ hst.1 SpEq.rf hr).1⟩, fun k hk => by rw [hrow k hk]; exact (hβ2 k hk).symm⟩
  · rw [hrow i hi]
    refine ⟨hst.2.1 i hi, (hst.1.1 i hi).2.2, fun t ht => ?_, by rw [hβ2 i hi]; exact Int.le_refl _, (hst.1.1 i hi).1⟩
    by_cases e : t < 5
    · exact hβ3 i t hi e
    · have e2 : BMx 0 15 zs i t = 0 := by
        show zs (0 + 15 * i + t) = 0
        rw [Nat.zero_add]
        exact hz i t hi (by omega) ht
      rw [e2]
      have : ab (0 : Int) = 0 := rfl
      have := (hβ t).1
      omega
  · rw [gm_com]
    show ab (zs (150 + t)) ≤ _
    have h2 : XB * 1 ≤ XB * β t := Int.mul_le_mul_of_nonneg_left (hβ t).1 (by omega)
    by_cases e : t < 5
    · have := hc t e
      omega
    · rw [hc0 t (by omega) ht]
      have : ab (0 : Int) = 0 := rfl
      omega
theorem cw5 {zs : Nat → Int} {r : Nat} {l : Nat → Nat} {β : Nat → Int} (hr : r ≤ 4) (hP : 1 ≤ Pd (fun i => β (l i)) r ∧ Pd (fun i => β (l i)) r ≤ MB) (hq : ∀ k, k < r → GMx 0 15 r zs k (l k) = β (l k)) : cw (fun k => GMx 0 15 r zs k (l k)) XB r ≤ 16 * XB * MB := by
  have hx := xb1
  rw [cw_pd, Pd_congr (f := fun k => GMx 0 15 r zs k (l k)) (f' := fun k => β (l k)) (fun i hi => hq i hi)]
  have h1 : (2 : Int) ^ r ≤ 2 ^ 4 := pw_le (by omega) hr
  have h2 : (2 : Int) ^ 4 = 16 := by decide
  have h3 := pw1 (show (1 : Int) ≤ 2 by omega) r
  have h4 : 2 ^ r * XB ≤ 16 * XB := Int.mul_le_mul_of_nonneg_right (by omega) (by omega)
  exact Int.mul_le_mul h4 hP.2 (by omega) (by omega)
/-- what reduces comes to -/
theorem er5 {e : Nat → Int} {β : Nat → Int} {l : Nat → Nat} {r : Nat} (hβ : ∀ t, 1 ≤ β t ∧ β t ≤ KB4) (hr : r ≤ 5) (h0 : r = 0 ∨ e 0 ≤ 2 * XB * β (l 0)) (he : ∀ i, i < r → 1 ≤ e i ∧ e i ≤ 16 * XB * MB) (hP : Pd (fun i => β (l i)) r ≤ MB * KB4) (t : Nat) : 0 ≤ er e (fun n => β (l n)) r * β t ∧ er e (fun n => β (l n)) r * β t ≤ BB := by
  have hx := xb1
  have hm := mb1
  have hk := kb41
  have hb := hβ t
  have hp := (er_ge (e := e) (b := fun n => β (l n)) (h := r) (fun i hi => ⟨(he i hi).1, (hβ (l i)).1⟩) r (Nat.le_refl _)).1
  have y0 : 1 * 1 ≤ XB * MB := Int.mul_le_mul (by omega) (by omega) (by omega) (by omega)
  have y1 : 1 ≤ 16 * XB * MB := by rw [Int.mul_assoc]; omega
  have y2 := pw1 (show 1 ≤ 3 * (16 * XB * MB) by omega) 4
  have y3 : 1 * 1 ≤ MB * KB4 := Int.mul_le_mul (by omega) (by omega) (by omega) (by omega)
  have y4 : 1 * 1 ≤ 2 * XB * (MB * KB4) := Int.mul_le_mul (by omega) (by omega) (by omega) (by omega)
  have hR : er e (fun n => β (l n)) r ≤ (3 * (16 * XB * MB)) ^ 4 * (2 * XB * (MB * KB4)) := by
    rcases Nat.eq_zero_or_pos r with q | q
    · have e1 : er e (fun n => β (l n)) r = 1 := by rw [q]; rfl
      have z1 : 1 * 1 ≤ (3 * (16 * XB * MB)) ^ 4 * (2 * XB * (MB * KB4)) := Int.mul_le_mul (by omega) (by omega) (by omega) (by omega)
      omega
    · obtain ⟨n, rfl⟩ : ∃ n, r = n + 1 := ⟨r - 1, by omega⟩
      have h1 := er_w (e := e) (b := fun n => β (l n)) (Z := 2 * XB) y1 (by omega) (h0.resolve_left (by omega)) (fun i hi => ⟨(he i hi).1, (he i hi).2, (hβ (l i)).1⟩) n (Nat.le_refl _)
      have h2 : (3 * (16 * XB * MB)) ^ n ≤ (3 * (16 * XB * MB)) ^ 4 := pw_le (by omega) (by omega)
      have h3 : 2 * XB * Pd (fun n => β (l n)) (n + 1) ≤ 2 * XB * (MB * KB4) := Int.mul_le_mul_of_nonneg_left hP (by omega)
      have h4 : 1 ≤ Pd (fun n => β (l n)) (n + 1) := Pd_pos (fun i _ => (hβ (l i)).1)
      have h5 : 0 ≤ 2 * XB * Pd (fun n => β (l n)) (n + 1) := Int.mul_nonneg (by omega) (by omega)
      exact Int.le_trans h1 (Int.mul_le_mul h2 h3 h5 (by omega))
  refine ⟨Int.mul_nonneg (by omega) (by omega), ?_⟩
  unfold BB
  exact Int.mul_le_mul hR hb.2 (by omega) (Int.mul_nonneg (by omega) (by omega))
theorem no5 {zs z1 : Nat → Int} {r : Nat} {l : Nat → Nat} {β : Nat → Int} (hr : r ≤ 4) (hg : GPr (GMx 0 15 r zs) r 15 5 l β XB) (hβ : ∀ t, 1 ≤ β t ∧ β t ≤ KB4) (hP : 1 ≤ Pd (fun i => β (l i)) r ∧ Pd (fun i => β (l i)) r ≤ MB) (hq : ∀ k, k < r → GMx 0 15 r zs k (l k) = β (l k)) (y : GNo (GMx 0 15 r zs) (GMx 0 15 r z1) r 15 5 l β XB) (hz : ∀ t, 5 ≤ t → t < 15 → GMx 0 15 r z1 r t = 0) : ∃ e : Nat → Int, RdP (BMx 0 15 z1) r 15 l β e ∧ (∀ t, 0 ≤ er e (fun n => β (l n)) r * β t ∧ er e (fun n => β (l n)) r * β t ≤ BB) ∧ SpEq (GMx 0 15 r zs) (r + 1) (BMx 0 15 z1) r 15 := by
  have hx := xb1
  have hm := mb1
  have hk := kb41
  have hcw := cw5 (zs := zs) hr hP hq
  refine ⟨_, (y.rdp hg).cong (fun i hi t => by unfold BMx GMx; rw [if_pos hi]), fun t => er5 hβ (by omega) ?_ (fun i hi => ?_) ?_ t, y.1.tr ((SpEq.drop (fun t ht => ?_)).tr (SpEq.cong (fun i hi t _ => by unfold BMx GMx; rw [if_pos hi])))⟩
  · rcases Nat.eq_zero_or_pos r with q | q
    · exact Or.inl q
    · refine Or.inr ?_
      show (if 0 < r then cw (fun k => GMx 0 15 r zs k (l k)) XB (0 + 1) else 1) ≤ _
      rw [if_pos q]
      show 2 * GMx 0 15 r zs 0 (l 0) * XB ≤ _
      rw [hq 0 q, Int.mul_assoc, Int.mul_assoc, Int.mul_comm (β (l 0))]
      exact Int.le_refl _
  · show 1 ≤ (if i < r then _ else 1) ∧ (if i < r then _ else 1) ≤ _
    rw [if_pos hi]
    exact ⟨hg.cw1 (by omega), Int.le_trans ((cw_ge hg.2.2.2.1 hg.pos r (Nat.le_refl _)).2 _ (by omega)) hcw⟩
  · have h1 : MB * 1 ≤ MB * KB4 := Int.mul_le_mul_of_nonneg_left (by omega) (by omega)
    omega
  · by_cases e : t < 5
    · exact y.2.2.1 t e
    · exact hz t (by omega) ht
theorem ye5 {zs z1 : Nat → Int} {r s j : Nat} {l : Nat → Nat} {β : Nat → Int} (hr : r ≤ 4) (hg : GPr (GMx 0 15 r zs) r 15 5 l β XB) (hβ : ∀ t, 1 ≤ β t ∧ β t ≤ KB4) (hP : 1 ≤ Pd (fun i => β (l i)) r ∧ Pd (fun i => β (l i)) r ≤ MB) (hq : ∀ k, k < r → GMx 0 15 r zs k (l k) = β (l k)) (y : GYe (GMx 0 15 r zs) (BMx 0 15 z1) r 15 5 l β XB s j) : ∃ e : Nat → Int, RdP (BMx 0 15 z1) (r + 1) 15 (insF l s r j) β e ∧ (∀ t, 0 ≤ er e (fun n => β (insF l s r j n)) (r + 1) * β t ∧ er e (fun n => β (insF l s r j n)) (r + 1) * β t ≤ BB) ∧ SpEq (GMx 0 15 r zs) (r + 1) (BMx 0 15 z1) (r + 1) 15 ∧ ∀ i, i < r + 1 → insF l s r j i < 5 := by
  have hx := xb1
  have hm := mb1
  have hk := kb41
  have hcw := cw5 (zs := zs) hr hP hq
  obtain ⟨y1, y2, y3, y4, y5, y6, y7, y8, y9⟩ := id y
  refine ⟨_, y.rdp hg, fun t => er5 hβ (by omega) (Or.inr ?_) (fun i hi => ⟨(eY_bd hg y2 i).1, Int.le_trans (eY_bd hg y2 i).2 hcw⟩) ?_ t, y1, fun i hi => ?_⟩
  · unfold eY
    have hb := (hβ (insF l s r j 0)).1
    by_cases q : 0 < s
    · rw [if_pos q]
      show 2 * GMx 0 15 r zs 0 (l 0) * XB ≤ _
      rw [hq 0 (by omega), show insF l s r j 0 = l 0 by unfold insF; rw [if_neg (by omega), if_neg (by omega)], Int.mul_assoc, Int.mul_assoc, Int.mul_comm (β (l 0))]
      exact Int.le_refl _
    · rw [if_neg q, if_pos (by omega), show s = 0 by omega]
      show XB ≤ 2 * XB * _
      rw [show s = 0 by omega] at hb
      have : 2 * XB * 1 ≤ 2 * XB * β (insF l 0 r j 0) := Int.mul_le_mul_of_nonneg_left hb (by omega)
      omega
  · rw [insF_map, Pd_ins r y2]
    exact Int.mul_le_mul hP.2 (hβ j).2 (by have := (hβ j).1; omega) (by omega)
  · unfold insF
    split
    · exact y3
    · split
      · exact (hg.1 (i - 1) (by omega)).2.2.2.2
      · exact (hg.1 i (by omega)).2.2.2.2
theorem Stair.w5 {A : Mat} {h : Nat} {l : Nat → Nat} (s : Stair A h 15 l) (hl : ∀ i, i < h → l i < 5) : Stair A h 5 l := ⟨⟨fun i hi => ⟨hl i hi, (s.1.1 i hi).2⟩, s.1.2⟩, s.2⟩
theorem SpEq.w5 {A B : Mat} {n m : Nat} (h : SpEq A n B m 15) : SpEq A n B m 5 := SpEq.col (φ := fun j => j) h (fun j hj => by show j < 15; omega)
theorem z15_of {A : Mat} {n r : Nat} {z : Nat → Int} (h : SpEq A n (BMx 0 15 z) r 15) (hA : ∀ i t, i < n → 5 ≤ t → t < 15 → A i t = 0) : Z15 z r := fun i t hi h1 h2 => by
  obtain ⟨cf, hcf⟩ := (h (BMx 0 15 z i)).mpr (Span.row hi)
  have h9 := hcf t h2
  have e : BMx 0 15 z i t = z (15 * i + t) := by show z (0 + 15 * i + t) = _; rw [Nat.zero_add]
  rw [← e, h9]
  exact Sg_zero (fun k hk => by rw [hA k t hk h1 h2, Int.mul_zero])
theorem gz15 {zs : Nat → Int} {r : Nat} (hz : Z15 zs r) (hc0 : ∀ t, 5 ≤ t → t < 15 → zs (150 + t) = 0) : ∀ i t, i < r + 1 → 5 ≤ t → t < 15 → GMx 0 15 r zs i t = 0 := fun i t hi h1 h2 => by
  unfold GMx
  split
  · rw [Nat.zero_add]; exact hz i t (by omega) h1 h2
  · exact hc0 t h1 h2
/-- the coming row goes to the rows that have come -/
theorem gm_snoc {N : Mat} {i r : Nat} {zs : Nat → Int} (h : SpEq N i (BMx 0 15 zs) r 5) (hR : ∀ j, j < 5 → N i j = zs (150 + j)) : SpEq N (i + 1) (GMx 0 15 r zs) (r + 1) 5 := by
  have up1 : ∀ x, Span (BMx 0 15 zs) r 5 x → Span (GMx 0 15 r zs) (r + 1) 5 x := fun x hx => span_sub (fun k hk => (Span.row (A := GMx 0 15 r zs) (i := k) (by omega)).congr (fun j _ => by unfold BMx GMx; rw [if_pos hk])) hx
  have up2 : ∀ x, Span N i 5 x → Span N (i + 1) 5 x := fun x hx => span_sub (fun k hk => Span.row (by omega)) hx
  refine SpEq.of (fun k hk => ?_) (fun k hk => ?_)
  · by_cases e : k < i
    · exact up1 _ ((h _).mp (Span.row e))
    · obtain rfl : i = k := by omega
      exact (Span.row (A := GMx 0 15 r zs) (i := r) (by omega)).congr (fun j hj => by rw [hR j hj, gm_com])
  · by_cases e : k < r
    · refine (up2 _ ((h _).mpr (Span.row (i := k) e))).congr (fun j _ => by unfold BMx GMx; rw [if_pos e])
    · obtain rfl : r = k := by omega
      exact (Span.row (A := N) (i := i) (by omega)).congr (fun j hj => by rw [hR j hj, gm_com])

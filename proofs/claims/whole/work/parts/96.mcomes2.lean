/-! ===== the reference: comesIn, whole ===== -/
def ComQ (g : GX) (mo r κ : Nat) (ar ac : Int) (zs : Nat → Int) : Option Value → AH → Prop := fun q V' => none = q ∧ ∃ (r' κ' : Nat) (l' lk' : Nat → Nat) (z' : Nat → Int), CSt g mo V' r' κ' ar ac l' lk' z' ∧ Stair (CMx r' z') (r' + κ') 15 (lcx r' l' lk') ∧ SpEq (CIx r zs) (r + 1 + κ) (CMx r' z') (r' + κ') 15 ∧ r' + κ' ≤ r + κ + 1 ∧ Frm zs z' InC
theorem BMx_eq {b w h : Nat} {z z' : Nat → Int} (e : ∀ i t, i < h → t < w → z' (b + w * i + t) = z (b + w * i + t)) : SpEq (BMx b w z) h (BMx b w z') h w := SpEq.cong (fun i hi t ht => (e i t hi ht).symm)
theorem no_sp {r κ : Nat} {z1 : Nat → Int} (hz : ∀ t, t < 5 → z1 (150 + t) = 0) : SpEq (stk (GMx 0 15 r z1) (r + 1) (KEx z1)) (r + 1 + κ) (stk (BMx 0 15 z1) r (ext5 (GKx κ z1))) (r + (κ + 1)) 15 := by
  have g1 : ∀ c t, c < κ → GKx κ z1 c t = if 165 + 10 * c + t < 165 then 0 else z1 (165 + 10 * c + t) := fun c t hc => by
    unfold GKx GMx kz
    rw [if_pos hc, if_neg (by omega), if_neg (by omega), if_neg (by omega)]
  have e1 : ∀ c j, c < κ → ext5 (GKx κ z1) c j = KEx z1 c j := fun c j hc => by
    unfold KEx ext5 BMx
    split
    · rfl
    · rw [g1 c _ hc, if_neg (by omega)]
  have e2 : ∀ j, j < 15 → ext5 (GKx κ z1) κ j = z1 (150 + j) := fun j hj => by
    unfold ext5
    by_cases e : j < 5
    · rw [if_pos e, hz j e]
    · rw [if_neg e]
      unfold GKx GMx kz
      rw [if_neg (by omega), if_neg (by omega), if_pos (by omega), show 155 + (150 + (j - 5) - 150) = 150 + j by omega]
  refine SpEq.perm (fun i hi => ?_) (fun i hi => ?_)
  · by_cases a1 : i < r
    · refine ⟨i, by omega, fun j _ => ?_⟩
      rw [stk_lt (by omega), stk_lt a1, gm_row a1]
      rfl
    · by_cases a2 : i = r
      · subst a2
        refine ⟨i + κ, by omega, fun j hj => ?_⟩
        rw [stk_lt (by omega), stk_ge (by omega), show i + κ - i = κ by omega, e2 j hj, gm_com]
      · refine ⟨i - 1, by omega, fun j _ => ?_⟩
        rw [stk_ge (by omega), stk_ge (by omega), show i - 1 - r = i - (r + 1) by omega, e1 _ _ (by omega)]
  · by_cases a1 : i < r
    · refine ⟨i, by omega, fun j _ => ?_⟩
      rw [stk_lt (by omega), stk_lt (by omega), gm_row a1]
      rfl
    · by_cases a2 : i = r + κ
      · subst a2
        refine ⟨r, by omega, fun j hj => ?_⟩
        rw [stk_ge (by omega), stk_lt (by omega), show r + κ - r = κ by omega, e2 j hj, gm_com]
      · refine ⟨i + 1, by omega, fun j _ => ?_⟩
        rw [stk_ge (by omega), stk_ge (by omega), show i + 1 - (r + 1) = i - r by omega, e1 _ _ (by omega)]
theorem RdP.cong' {A A' : Mat} {h w : Nat} {l : Nat → Nat} {β e : Nat → Int} (p : RdP A h w l β e) (q : ∀ i, i < h → ∀ t, t < w → A' i t = A i t) : RdP A' h w l β e :=
  ⟨fun i hi => ⟨(p.1 i hi).1, by rw [q i hi _ (p.1 i hi).1]; exact (p.1 i hi).2.1, fun t ht => by rw [q i hi _ (by have := (p.1 i hi).1; omega)]; exact (p.1 i hi).2.2.1 t ht, fun t ht => by rw [q i hi t ht]; exact (p.1 i hi).2.2.2.1 t ht, (p.1 i hi).2.2.2.2⟩, p.2⟩
theorem m_comesIn (g : GX) (d : Nat) {V : AH} {mo sz r κ : Nat} {ar ac X K M : Int} {zs : Nat → Int} {l lk : Nat → Nat} (hC : CSt g mo V r κ ar ac l lk zs) (hst : Stair (CMx r zs) (r + κ) 15 (lcx r l lk)) (hn : r + κ ≤ 9) (hL0 : LBM (CMx r zs) (r + κ) 15 10 K M) (hL1 : LBM (CIx r zs) (r + 1 + κ) 15 10 K M) (hX : 1 ≤ X) (hK : 1 ≤ K) (hM1 : 1 ≤ M) (hXb : ∀ t, t < 15 → ab (zs (150 + t)) ≤ X) (hS : SmM (BgT X M K)) : AMet g mX6_comesIn (d + 6) [.ref mo] V sz (VX V sz (EC mo) (ComQ g mo r κ ar ac zs)) := by
  obtain ⟨RW, RK, hmo, hra, hrk, hl, hlk, hM, hl5⟩ := hC
  obtain ⟨hpS, hpK, hpX⟩ := cm_parts hst hl5
  have hbg := bgt hX hM1 hK
  obtain ⟨β, hβ, hβ2, hβ3⟩ := wts hst hK (fun i j hi hj => hst.bdm hL0 SpEq.rf (by omega) hi hj)
  have hg : GPr (GMx 0 15 r zs) r 15 5 l β X := by
    refine ⟨fun i hi => ?_, hpS.1.2, fun t => (hβ t).1, hX, by omega, fun t ht => ?_⟩
    · have e : GMx 0 15 r zs i = BMx 0 15 zs i := gm_row hi
      rw [e]
      obtain ⟨a1, a2, a3⟩ := hpS.1.1 i hi
      refine ⟨hpS.2.1 i hi, a3, fun t ht => ?_, ?_, hl5 i hi⟩
      · have := hβ3 i t (by omega) ht
        unfold CMx at this
        rw [stk_lt hi] at this
        exact this
      · have := hβ2 i (by omega)
        rw [lcx_s hi] at this
        unfold CMx at this
        rw [stk_lt hi] at this
        omega
    · rw [gm_com]
      have h1 := hXb t ht
      have h2 : X * 1 ≤ X * β t := Int.mul_le_mul_of_nonneg_left (hβ t).1 (by omega)
      show ab (zs (150 + t)) ≤ _
      omega
  have hPdS : Pd (fun k => GMx 0 15 r zs k (l k)) r * Pd (fun k => zs (165 + 10 * k + lk k)) κ = Pd (fun i => ab (CMx r zs i (lcx r l lk i))) (r + κ) := by
    rw [Pd_add]
    congr 1
    · refine Pd_congr (fun i hi => ?_)
      have e : GMx 0 15 r zs i = BMx 0 15 zs i := gm_row hi
      rw [lcx_s hi, e]
      unfold CMx
      rw [stk_lt hi, ab_pos (by have := hpS.2.1 i hi; omega)]
    · refine Pd_congr (fun c hc => ?_)
      have h1 : 0 < zs (165 + 10 * c + lk c) := hpK.2.1 c hc
      rw [lcx_k, cm_k, if_neg (by omega), show 5 + lk c - 5 = lk c by omega, ab_pos (by omega)]
  have hPdM : Pd (fun i => ab (CMx r zs i (lcx r l lk i))) (r + κ) ≤ M := (hL0 _ _ _ hst.1 SpEq.rf (by omega)).1
  have hPd1 : 1 ≤ Pd (fun i => ab (CMx r zs i (lcx r l lk i))) (r + κ) := Pd_pos (fun i hi => by have := hst.2.1 i hi; unfold ab; omega)
  have hPr1 : 1 ≤ Pd (fun k => GMx 0 15 r zs k (l k)) r := Pd_pos hg.pos
  have hPk1 : 1 ≤ Pd (fun k => zs (165 + 10 * k + lk k)) κ := Pd_pos (fun c hc => by have h1 : 0 < zs (165 + 10 * c + lk c) := hpK.2.1 c hc; omega)
  have hcS : cw (fun k => GMx 0 15 r zs k (l k)) X r ≤ 1024 * X * M := cw_le hX (by
    have : Pd (fun k => GMx 0 15 r zs k (l k)) r * 1 ≤ Pd (fun k => GMx 0 15 r zs k (l k)) r * Pd (fun k => zs (165 + 10 * k + lk k)) κ := Int.mul_le_mul_of_nonneg_left hPk1 (by omega)
    omega) hPr1 (by omega)
  have TAIL : ∀ {V4 : AH} {z4 : Nat → Int} (r4 κ4 : Nat) (l4 lk4 : Nat → Nat) (RW4 RK4 e4 : Nat → Int), r4 + κ4 ≤ r + κ + 1 → r4 ≤ 10 → V4 mo = some (moO mo r4 κ4 ar ac) → V4 (mo + 6) = some (aIz g 11 RW4) → V4 (mo + 7) = some (aIz g 11 RK4) → (∀ i, i < r4 → RW4 i = (l4 i : Int)) → (∀ i, i < κ4 → RK4 i = (lk4 i : Int)) → MN g mo V4 z4 → (∀ i, i < r4 → l4 i < 5) → Frm zs z4 InC → (∀ a, ¬ EC mo a → V4 a = V a) → RdP (BMx 0 15 z4) r4 15 l4 β e4 → (∀ i, i < r4 → (1 ≤ e4 i ∧ e4 i ≤ 1024 * X * M) ∧ 1 ≤ (fun n => β (l4 n)) i ∧ (fun n => β (l4 n)) i ≤ K) → Stair (BMx 165 10 z4) κ4 10 lk4 → SpEq (CIx r zs) (r + 1 + κ) (CMx r4 z4) (r4 + κ4) 15 → AW g mX6_comesIn (d + 6) 38 [(0, .ref mo)] [] V4 sz (VX V sz (EC mo) (ComQ g mo r κ ar ac zs)) := fun {V4 z4} r4 κ4 l4 lk4 RW4 RK4 e4 hrκ hr4 hmo4 hra4 hrk4 hl4 hlk4 hM4 hl45 hF4 hV4 hp4 he4 hK4 hsp4 => by
    have hκ4 : κ4 ≤ 10 := hK4.1.le_w
    have hrb2 : ∀ t, er e4 (fun n => β (l4 n)) r4 * β t ≤ (3 * (1024 * X * M) * K) ^ r4 * K := fun t => Int.mul_le_mul (er_crude he4 r4 (Nat.le_refl _)) (hβ t).2 (by have := (hβ t).1; omega) (by have := pw1 hbg.2.1 r4; omega)
    have hrb : ∀ t, ab (er e4 (fun n => β (l4 n)) r4 * β t) ≤ (3 * (1024 * X * M) * K) ^ r4 * K := fun t => by
      rw [ab_pos (Int.mul_nonneg (by have := (hp4.er1 (Nat.le_refl r4)).1; omega) (by have := (hβ t).1; omega))]
      exact hrb2 t
    refine aw_aload_n dX6_comesIn_38 (by rfl) (Or.inr ⟨_, rfl⟩) ?_
    refine aw_iconstZ dX6_comesIn_39 ?_
    refine aw_bipushZ dX6_comesIn_40 (by decide) ?_
    refine aw_bipushZ dX6_comesIn_42 (by decide) ?_
    refine aw_aload_n dX6_comesIn_44 (by rfl) (Or.inr ⟨_, rfl⟩) ?_
    refine aw_get fX6_27 dX6_comesIn_45 hmo4 (by rfl) ?_
    refine aw_aload_n dX6_comesIn_48 (by rfl) (Or.inr ⟨_, rfl⟩) ?_
    refine aw_get fX6_117 dX6_comesIn_49 hmo4 (by rfl) ?_
    refine aw_callv vX6_127 dX6_comesIn_52 hmo4 (m_redS g (d + 2) (h := r4) (RW := RW4) (β := β) (e := e4) (l := l4) ⟨_, _, ar, ac, hmo4⟩ hM4 hra4 (by omega) hl4 hp4 (fun t ht => smT (hbg.2.2.2.1 r4 (by omega) |> fun q => smT hS (by rw [ab_pos (by have := pw1 hbg.2.1 r4; exact Int.mul_nonneg (by omega) (by omega))]; exact q)) (hrb t))) (by rfl) (by rfl) (by omega) (Nat.le_of_ble_eq_true rfl) ?_
    rintro _ V5 _ _ _ ⟨rfl, rfl, rfl, hE5, rfl, z5, hM5, hF5, hS5, hP5, hB5⟩ -
    refine q0 ?_
    have hmo5 := (hE5 mo (by unfold EN; omega)).trans hmo4
    have hra5 := (hE5 (mo + 6) (by unfold EN; omega)).trans hra4
    have hrk5 := (hE5 (mo + 7) (by unfold EN; omega)).trans hrk4
    have hK5 : Stair (BMx 165 10 z5) κ4 10 lk4 := hK4.cong (fun c hc j hj => hF5 _ (by unfold InR; omega))
    have hsp5 : SpEq (CMx r4 z4) (r4 + κ4) (CMx r4 z5) (r4 + κ4) 15 := hP5.stk (BMx_eq (b := 165) (w := 10) (fun c t hc ht => hF5 _ (by unfold InR; omega))).ext
    have hech := cm_ech hS5.1 hl45 hK5.1
    have hkb : ∀ e t, e < κ4 → t < 10 → ab (z5 (165 + 10 * e + t)) ≤ K := fun e t he ht => by
      have h1 := (hL1 _ _ _ hech (hsp4.tr hsp5) (by omega)).2 (CMx r4 z5 (r4 + e)) (Span.row (by omega)) 1 (by omega) (fun m' hm => ?_) (5 + t) (by omega)
      · rw [cm_k, if_neg (by omega), Int.one_mul, show 5 + t - 5 = t by omega] at h1
        exact h1
      · rw [Int.one_mul]
        by_cases a1 : m' < r4
        · rw [lcx_s a1, cm_k, if_pos (hl45 m' a1)]
          exact ab0 _
        · obtain ⟨f, rfl⟩ : ∃ f, m' = r4 + f := ⟨m' - r4, by omega⟩
          rw [lcx_k, cm_k, cm_k, if_neg (by omega), if_neg (by omega), show 5 + lk4 f - 5 = lk4 f by omega]
          rcases Nat.lt_trichotomy e f with b1 | b1 | b1
          · have b2 : 0 ≤ z5 (165 + 10 * e + lk4 f) ∧ z5 (165 + 10 * e + lk4 f) < z5 (165 + 10 * f + lk4 f) := hK5.2.2 e f b1 (by omega)
            unfold ab; omega
          · rw [b1]; exact Int.le_refl _
          · have b2 : z5 (165 + 10 * e + lk4 f) = 0 := (hK5.1.1 e he).2.2 (lk4 f) (hK5.1.2 f e b1 he)
            rw [b2]; exact ab0 _
    have hU0 : 1 ≤ (3 * (1024 * X * M) * K) ^ 10 * K := by
      have h1 := pw1 hbg.2.1 10
      have h2 : 1 * 1 ≤ (3 * (1024 * X * M) * K) ^ 10 * K := Int.mul_le_mul h1 hK (by omega) (by omega)
      omega
    refine aw_iconstZ dX6_comesIn_55 ?_
    refine aw_istore_n dX6_comesIn_56 (by decide) ?_
    refine aw_pk [1, 0] (by rfl) ?_
    refine ko_loop d (V0 := V5) (z5 := z5) (U := (3 * (1024 * X * M) * K) ^ 10 * K) (K := K) (by omega) hmo5 hrk5 hlk4 hU0 hK hK5 hkb (fun i hi => smT hS (by rw [ab_pos (Int.mul_nonneg (by omega) (Int.pow_nonneg (by omega)))]; exact hbg.2.2.2.2 i hi)) (fun {V6 z6} hM6 hV6 q6 => ?_) κ4 0 (by omega) hM5 (fun _ _ => rfl) (KRI.zero (fun i t hi ht => ?_))
    · refine aw_ret dX6_comesIn_146 rfl ?_
      refine ⟨rfl, rfl, rfl, fun a ha => ?_, rfl, r4, κ4, l4, lk4, z6, ⟨RW4, RK4, (hV6 mo (by unfold EN; omega)).trans hmo5, (hV6 _ (by unfold EN; omega)).trans hra5, (hV6 _ (by unfold EN; omega)).trans hrk5, hl4, hlk4, hM6, hl45⟩, ?_, ?_, hrκ, fun q hq => ?_⟩
      · rw [hV6 a (fun z => ha (by unfold EN at z; unfold EC; omega)), hE5 a (fun z => ha (by unfold EN at z; unfold EC; omega))]; exact hV4 a ha
      · refine cm_stair (hS5.cong5 hl45 (fun i j hi hj => ?_)) hl45 (hK5.cong (fun c hc j hj => ?_)) (fun i c hi hc => ?_)
        · show z6 (0 + 15 * i + j) = z5 (0 + 15 * i + j)
          rw [Nat.zero_add]
          exact q6.2.1 i j hi hj
        · exact q6.1 _ (by omega) (by omega)
        · have h8 := q6.2.2.1 i c hi hc (by omega)
          have h9 := (hK5.1.1 c hc).1
          rw [← q6.1 (165 + 10 * c + lk4 c) (by omega) (by omega)] at h8
          exact h8
      · exact (hsp4.tr hsp5).tr q6.2.2.2.2
      · unfold InC at hq
        rw [q6.1 q (by omega) (by omega), hF5 q (by unfold InR; omega)]
        exact hF4 q hq
    · have h1 := hB5 i hi t ht
      have h2 : er e4 (fun n => β (l4 n)) r4 * β t ≤ (3 * (1024 * X * M) * K) ^ r4 * K := hrb2 t
      have h3 : (3 * (1024 * X * M) * K) ^ r4 * K ≤ (3 * (1024 * X * M) * K) ^ 10 * K := Int.mul_le_mul_of_nonneg_right (pw_le hbg.2.1 (by omega)) (by omega)
      have h4 : BMx 0 15 z5 i t = z5 (15 * i + t) := by unfold BMx; rw [Nat.zero_add]
      rw [h4] at h1
      omega
  refine AMet.of rfl rfl (Nat.le_of_ble_eq_true rfl) ?_
  show AW g mX6_comesIn (d + 6) 0 [(0, .ref mo)] [] V sz _
  refine aw_aload_n dX6_comesIn_0 (by rfl) (Or.inr ⟨_, rfl⟩) ?_
  refine aw_iconstZ dX6_comesIn_1 ?_
  refine aw_bipushZ dX6_comesIn_2 (by decide) ?_
  refine aw_bipushZ dX6_comesIn_4 (by decide) ?_
  refine aw_iconstZ dX6_comesIn_6 ?_
  refine aw_aload_n dX6_comesIn_7 (by rfl) (Or.inr ⟨_, rfl⟩) ?_
  refine aw_get fX6_27 dX6_comesIn_8 hmo (by rfl) ?_
  refine aw_aload_n dX6_comesIn_11 (by rfl) (Or.inr ⟨_, rfl⟩) ?_
  refine aw_get fX6_117 dX6_comesIn_12 hmo (by rfl) ?_
  refine aw_callv vX6_120 dX6_comesIn_15 hmo (m_goesS g (d + 1) (h := r) (RW := RW) (β := β) (l := l) (X := X) ⟨_, _, ar, ac, hmo⟩ hM hra (by omega) hl hg (fun t ht => ?_)) (by rfl) (by rfl) (by omega) (Nat.le_of_ble_eq_true rfl) ?_
  · refine smT hS (Int.le_trans ?_ hbg.2.2.1)
    rw [ab_pos (Int.mul_nonneg (by have := hg.cw1 (Nat.le_refl r); omega) (by have := (hβ t).1; omega))]
    exact Int.mul_le_mul hcS (hβ _).2 (by have := (hβ t).1; omega) (by have := hbg.1; omega)
  rintro _ V3 _ _ _ ⟨rfl, rfl, rfl, hE3, z3, hM3, hF3, hr3⟩ -
  refine q0 ?_
  have hmo3 : V3 mo = some (moO mo r κ ar ac) := (hE3 mo (by unfold ER EN; omega)).trans hmo
  rcases hr3 with ⟨rfl, hra3, hn3⟩ | ⟨s, j, rfl, hra3, hy3⟩
  · refine aw_if_eqZ (tgt := 34) dX6_comesIn_18 (by decide) (by omega) (fun _ => ?_) (fun h => absurd rfl h)
    refine aw_aload_n dX6_comesIn_34 (by rfl) (Or.inr ⟨_, rfl⟩) ?_
    have hz3 : ∀ c t, c < κ → t < 10 → kz z3 (165 + 10 * c + t) = zs (165 + 10 * c + t) := fun c t hc ht => by
      unfold kz
      rw [if_neg (by omega), if_neg (by omega)]
      exact hF3 _ (by unfold InG; omega)
    have hGKr : ∀ c, c < κ → ∀ t, t < 10 → GKx κ z3 c t = zs (165 + 10 * c + t) := fun c hc t ht => by
      unfold GKx
      rw [gm_row hc]
      exact hz3 c t hc ht
    have hGKl : ∀ t, t < 10 → GKx κ z3 κ t = z3 (150 + (5 + t)) := fun t ht => by
      unfold GKx kz
      rw [gm_com]
      show (if 160 ≤ 150 + t ∧ 150 + t < 165 then 0 else if 150 ≤ 150 + t ∧ 150 + t < 160 then z3 (155 + (150 + t - 150)) else z3 (150 + t)) = _
      rw [if_neg (by omega), if_pos (by omega), show 155 + (150 + t - 150) = 150 + (5 + t) by omega]
    have hPk : Pd (fun k => GKx κ z3 k (lk k)) κ = Pd (fun k => zs (165 + 10 * k + lk k)) κ := Pd_congr (fun c hc => hGKr c hc _ (hpK.1.1 c hc).1)
    have hgK : GPr (GKx κ z3) κ 10 10 lk (fun t => β (5 + t)) (cw (fun k => GMx 0 15 r zs k (l k)) X r) := by
      refine ⟨fun c hc => ?_, fun i k h1 h2 => hpK.1.2 i k h1 h2, fun t => (hβ _).1, hg.cw1 (Nat.le_refl _), by omega, fun t ht => ?_⟩
      · obtain ⟨a1, a2, a3⟩ := hpK.1.1 c hc
        have a4 : 0 < zs (165 + 10 * c + lk c) := hpK.2.1 c hc
        refine ⟨by rw [hGKr c hc _ a1]; exact a4, fun t ht => by rw [hGKr c hc _ (by omega)]; exact a3 t ht, fun t ht => ?_, ?_, a1⟩
        · rw [hGKr c hc _ ht]
          have := hβ3 (r + c) (5 + t) (by omega) (by omega)
          rw [cm_k, if_neg (by omega), show 5 + t - 5 = t by omega] at this
          exact this
        · rw [hGKr c hc _ a1]
          have := hβ2 (r + c) (by omega)
          rw [lcx_k, cm_k, if_neg (by omega), show 5 + lk c - 5 = lk c by omega] at this
          show β (5 + lk c) ≤ _
          omega
      · rw [hGKl t ht]
        have := hn3.2.2.2 (5 + t) (by omega)
        rw [gm_com] at this
        exact this
    have hcK : cw (fun k => GKx κ z3 k (lk k)) (cw (fun k => GMx 0 15 r zs k (l k)) X r) κ ≤ 1024 * X * M := by
      rw [cw_pd, hPk, cw_pd]
      have e1 : (2 : Int) ^ κ * (2 ^ r * X * Pd (fun k => GMx 0 15 r zs k (l k)) r) * Pd (fun k => zs (165 + 10 * k + lk k)) κ = 2 ^ (κ + r) * X * (Pd (fun k => GMx 0 15 r zs k (l k)) r * Pd (fun k => zs (165 + 10 * k + lk k)) κ) := by
        rw [Int.pow_add]
        simp only [Int.mul_assoc]
      rw [e1, hPdS]
      have e2 : (2 : Int) ^ (κ + r) ≤ 2 ^ 10 := pw_le (by omega) (by omega)
      have e3 : (2 : Int) ^ 10 = 1024 := by decide
      have e4 : 2 ^ (κ + r) * X ≤ 1024 * X := Int.mul_le_mul_of_nonneg_right (by omega) (by omega)
      exact Int.mul_le_mul e4 hPdM (by omega) (by omega)
    refine aw_callv vX6_124 dX6_comesIn_35 hmo3 (m_kernelIn g d (κ := κ) (RW := RK) (β := fun t => β (5 + t)) (lk := lk) (X := cw (fun k => GMx 0 15 r zs k (l k)) X r) (K := K) hmo3 hM3 (by omega) ((hE3 _ (by unfold ER EN; omega)).trans hrk) hlk hgK (fun t => (hβ _).2) (fun t ht => ?_) (fun t ht => ?_)) (by rfl) (by rfl) (by omega) (Nat.le_of_ble_eq_true rfl) ?_
    · refine smT hS (Int.le_trans ?_ hbg.2.2.1)
      rw [ab_pos (Int.mul_nonneg (by have := hgK.cw1 (Nat.le_refl κ); omega) (by have := (hβ (5 + t)).1; omega))]
      exact Int.mul_le_mul hcK (hβ _).2 (by have := (hβ (5 + t)).1; omega) (by have := hbg.1; omega)
    · have h8 := hgK.cw1 (Nat.le_refl κ)
      refine smT hS (Int.le_trans ?_ (hbg.2.2.2.1 (κ + 1) (by omega)))
      have h9 : (3 * cw (fun k => GKx κ z3 k (lk k)) (cw (fun k => GMx 0 15 r zs k (l k)) X r) κ * K) ^ (κ + 1) ≤ (3 * (1024 * X * M) * K) ^ (κ + 1) := pw_base (Int.mul_nonneg (by omega) (by omega)) (Int.mul_le_mul_of_nonneg_right (by omega) (by omega)) _
      have h10 : 0 ≤ (3 * cw (fun k => GKx κ z3 k (lk k)) (cw (fun k => GMx 0 15 r zs k (l k)) X r) κ * K) ^ (κ + 1) := Int.pow_nonneg (Int.mul_nonneg (by omega) (by omega))
      have h11 := hβ (5 + t)
      rw [ab_pos (Int.mul_nonneg h10 (by omega))]
      exact Int.mul_le_mul h9 h11.2 (by omega) (by omega)
    rintro _ V4 _ _ _ ⟨rfl, rfl, rfl, hE4, rfl, z4, κ4, lk4, RK4, hmo4, hrk4, hlk4, hM4, hF4, hK4, hP4, hκ4⟩ -
    refine q0 ?_
    refine aw_pk [0] (by rfl) ?_
    refine TAIL r κ4 l lk4 RW RK4 (fun i => if i < r then cw (fun k => GMx 0 15 r zs k (l k)) X (i + 1) else 1) (by omega) (by omega) hmo4 ((hE4 _ (by unfold EK EC; omega)).trans hra3) hrk4 hl hlk4 hM4 hl5 (fun q hq => ?_) (fun a ha => ?_) ((hn3.rdp hg).cong' (fun i hi t ht => ?_)) (fun i hi => ⟨?_, (hβ _).1, (hβ _).2⟩) hK4 ?_
    · unfold InC at hq
      rw [hF4 q (by unfold InG; omega)]
      exact hF3 q (by unfold InG; omega)
    · rw [hE4 a (fun z => ha z.2), hE3 a (fun z => ha (by unfold ER EN at z; unfold EC; omega))]
    · rw [gm_row hi]
      exact hF4 _ (by unfold InG; omega)
    · show 1 ≤ (if i < r then _ else 1) ∧ (if i < r then _ else 1) ≤ _
      rw [if_pos hi]
      exact ⟨hg.cw1 (by omega), Int.le_trans ((cw_ge hg.2.2.2.1 hg.pos r (Nat.le_refl _)).2 _ (by omega)) hcS⟩
    · refine (hn3.1.stk (BMx_eq (b := 165) (w := 10) (h := κ) (z := zs) (z' := z3) (fun c t hc ht => hF3 _ (by unfold InG; omega))).ext).tr ?_
      refine (no_sp (fun t ht => ?_)).tr ((BMx_eq (b := 0) (w := 15) (fun i t hi ht => hF4 _ (by unfold InG; omega))).stk hP4.ext)
      have := hn3.2.2.1 t ht
      rw [gm_com] at this
      exact this
  · refine aw_if_eqZ (tgt := 34) dX6_comesIn_18 (by decide) (by omega) (fun h => absurd h (by decide)) (fun _ => ?_)
    refine aw_aload_n dX6_comesIn_21 (by rfl) (Or.inr ⟨_, rfl⟩) ?_
    refine aw_dup dX6_comesIn_22 rfl ?_
    refine aw_get fX6_117 dX6_comesIn_23 hmo3 (by rfl) ?_
    refine aw_iconstZ dX6_comesIn_26 ?_
    refine aw_iaddZ dX6_comesIn_27 ?_
    refine aw_put fX6_117 dX6_comesIn_28 hmo3 (by rfl) (by rfl) (Nat.le_of_ble_eq_true rfl) ?_
    refine aw_goto (tgt := 38) dX6_comesIn_31 (by decide) ?_
    refine aw_pk [0] (by rfl) ?_
    refine TAIL (r + 1) κ (insF l s r j) lk (insF RW s r (j : Int)) RK (eY (GMx 0 15 r zs) l X s) (by omega) (by omega) (AHu_self _ _ _) ((AHu_ne (by omega)).trans hra3) ((AHu_ne (by omega)).trans ((hE3 _ (by unfold ER EN; omega)).trans hrk)) (fun i hi => ?_) hlk (hM3.kept (fun a ha => AHu_ne (by unfold EN at ha; omega))) (fun i hi => ?_) (fun q hq => hF3 q (by unfold InC at hq; unfold InG; omega)) (fun a ha => ?_) (hy3.rdp hg) (fun i hi => ⟨⟨(eY_bd hg hy3.2.1 i).1, Int.le_trans (eY_bd hg hy3.2.1 i).2 hcS⟩, (hβ _).1, (hβ _).2⟩) (hpK.cong (fun c hc j hj => hF3 _ (by unfold InG; omega))) (hy3.1.stk (BMx_eq (b := 165) (w := 10) (fun c t hc ht => hF3 _ (by unfold InG; omega))).ext)
    · unfold insF
      split
      · rfl
      · split
        · exact hl (i - 1) (by omega)
        · exact hl i (by have := hy3.2.1; omega)
    · unfold insF
      split
      · exact hy3.2.2.1
      · split
        · exact hl5 (i - 1) (by omega)
        · exact hl5 i (by have := hy3.2.1; omega)
    · rw [AHu_ne (fun z => ha (by unfold EC; omega)), hE3 a (fun z => ha (by unfold ER EN at z; unfold EC; omega))]

/-! ===== the reference: quotient: the sizes of the multiples ===== -/
theorem gc_fam (f : Nat → Int) (P : Nat → Prop) : ∀ n : Nat, ∃ x : Int, 0 ≤ x ∧ ∀ d : Int, d ∣ x ↔ ∀ i, i < n → P i → d ∣ f i
  | 0 => ⟨0, Int.le_refl _, fun d => ⟨fun _ i hi => absurd hi (by omega), fun _ => dvd_z d⟩⟩
  | n + 1 => by
    obtain ⟨x, h1, h2⟩ := gc_fam f P n
    by_cases hp : P n
    · refine ⟨((Int.gcd x (f n) : Nat) : Int), by omega, fun d => ?_⟩
      rw [Int.dvd_coe_gcd_iff, h2]
      constructor
      · rintro ⟨a1, a2⟩ i hi q
        by_cases e : i = n
        · rw [e]; exact a2
        · exact a1 i (by omega) q
      · intro a
        exact ⟨fun i hi q => a i (by omega) q, a n (by omega) hp⟩
    · refine ⟨x, h1, fun d => (h2 d).trans ⟨fun a i hi q => ?_, fun a i hi q => a i (by omega) q⟩⟩
      by_cases e : i = n
      · rw [e] at q; exact absurd q hp
      · exact a i (by omega) q
theorem gcp_ex {C : Mat} {k r c : Nat} (hk : k ≤ 5) (hr : r ≤ 5) (hc : c ≤ 5) : ∃ x : Int, GcP k C r c x := by
  obtain ⟨x, h1, h2⟩ := gc_fam (fun i => det k (fun a b => C (psb (i / 32) a) (psb (i % 32) b))) (fun i => OkP k r c (i / 32) (i % 32)) 1024
  refine ⟨x, h1, fun d => (h2 d).trans (Iff.trans ⟨fun z p q hp hq ho => ?_, fun z i hi ho => z (i / 32) (i % 32) (by omega) (by omega) ho⟩ (dvt_sets hk hr hc))⟩
  have h3 := z (32 * p + q) (by omega) (by rw [show (32 * p + q) / 32 = p by omega, show (32 * p + q) % 32 = q by omega]; exact ho)
  rw [show (32 * p + q) / 32 = p by omega, show (32 * p + q) % 32 = q by omega] at h3
  exact h3
def QzI (C : Mat) (r al k p c : Nat) (gg : Int) : Prop := 0 ≤ gg ∧ ∀ d : Int, d ∣ gg ↔ ∀ p' q', p' < 32 → q' < 32 → (p' < p ∨ (p' = p ∧ q' < c)) → OkP k r al p' q' → d ∣ det k (fun a b => C (psb p' a) (psb q' b))
section QzS
variable {C : Mat} {r al k p c : Nat} {gg g2 : Int}
theorem QzI.skip (h : QzI C r al k p c gg) (hno : ¬ OkP k r al p c) : QzI C r al k p (c + 1) gg := ⟨h.1, fun d => (h.2 d).trans ⟨fun z p' q' hp hq hpq ho => by
  by_cases e : p' = p ∧ q' = c
  · rw [e.1, e.2] at ho; exact absurd ho hno
  · exact z p' q' hp hq (by omega) ho, fun z p' q' hp hq hpq ho => z p' q' hp hq (by omega) ho⟩⟩
theorem QzI.step (h : QzI C r al k p c gg) (hp : p < 32) (hc : c < 32) (hok : OkP k r al p c) (h1 : 0 ≤ g2) (h2 : ∀ d : Int, d ∣ g2 ↔ (d ∣ gg ∧ d ∣ det k (fun a b => C (psb p a) (psb c b)))) : QzI C r al k p (c + 1) g2 := ⟨h1, fun d => (h2 d).trans ⟨fun z p' q' hp hq hpq ho => by
  by_cases e : p' = p ∧ q' = c
  · rw [e.1, e.2]; exact z.2
  · exact (h.2 d).mp z.1 p' q' hp hq (by omega) ho, fun z => ⟨(h.2 d).mpr (fun p' q' hp hq hpq ho => z p' q' hp hq (by omega) ho), z p c hp hc (by omega) hok⟩⟩⟩
theorem QzI.row (h : QzI C r al k p (2 ^ al) gg) : QzI C r al k (p + 1) 0 gg := ⟨h.1, fun d => (h.2 d).trans ⟨fun z p' q' hp hq hpq ho => by
  by_cases e : p' = p
  · exact z p' q' hp hq (Or.inr ⟨e, ho.2.1⟩) ho
  · exact z p' q' hp hq (Or.inl (by omega)) ho, fun z p' q' hp hq hpq ho => z p' q' hp hq (by omega) ho⟩⟩
theorem QzI.fin (h : QzI C r al k (2 ^ r) 0 gg) (hk : k ≤ 5) (hr : r ≤ 5) (hc : al ≤ 5) : GcP k C r al gg := ⟨h.1, fun d => (h.2 d).trans (Iff.trans ⟨fun z p q hp hq ho => z p q hp hq (Or.inl ho.1) ho, fun z p q hp hq _ ho => z p q hp hq ho⟩ (dvt_sets hk hr hc))⟩
theorem QzI.zero : QzI C r al k 0 0 0 := ⟨Int.le_refl _, fun d => ⟨fun _ p q _ _ hpq => absurd hpq (by omega), fun _ => dvd_z d⟩⟩
end QzS
def InF : Nat → Prop := fun q => (424 ≤ q ∧ q ≤ 426) ∨ (416 ≤ q ∧ q ≤ 418)
def QX : Int := 310 * TM10
theorem qX_sm : SmM (120 * QX ^ 5) := by
  unfold SmM QX
  decide +kernel
theorem qX1 : 1 ≤ QX := by have := tm10; unfold QX; omega
theorem nu_one {D LN SG : Nat → Int} {c : Nat} {z : Int} (h : NuV D LN SG c z) (hz : 0 < z) : (1 ≤ LN c ∧ LN c ≤ 100) ∧ (LN c = 1 → D (100 * c) = z ∧ z < 268435456) ∧ (z = 1 → LN c = 1) := by
  obtain ⟨n, a1, a2, a3, a4, a5, a6⟩ := h
  have hn : n ≠ 0 := fun e => by
    subst e
    simp only [mg] at a5
    omega
  refine ⟨by omega, fun e => ?_, fun e => ?_⟩
  · obtain rfl : n = 1 := by omega
    simp only [mg] at a5
    have h0 := a4 0 (by omega)
    have h1 : dg D c 0 = D (100 * c) := rfl
    rw [Int.pow_zero, Int.mul_one] at a5
    omega
  · by_cases e1 : n = 1
    · omega
    · exfalso
      obtain ⟨k, rfl⟩ : ∃ k, n = k + 2 := ⟨n - 2, by omega⟩
      have h1 := a4 (k + 1) (by omega)
      have h2 : dg D c (k + 1) ≠ 0 := a6.resolve_left (by omega)
      have h3 := (mg_bd (show (0 : Int) < 268435456 by omega) (F := dg D c) (n := k + 1) (fun i hi => a4 i (by omega))).1
      have h4 : mg 268435456 (dg D c) (k + 2) = mg 268435456 (dg D c) (k + 1) + dg D c (k + 1) * 268435456 ^ (k + 1) := rfl
      have h5 : (268435456 : Int) ^ 1 ≤ 268435456 ^ (k + 1) := pw_le (by omega) (by omega)
      rw [show (268435456 : Int) ^ 1 = 268435456 by decide] at h5
      have h6 : 1 * (268435456 : Int) ^ (k + 1) ≤ dg D c (k + 1) * 268435456 ^ (k + 1) := Int.mul_le_mul_of_nonneg_right (by omega) (by omega)
      omega
set_option maxRecDepth 20000 in
theorem qg_c (d : Nat) {g : GX} {V0 : AH} {mo sz x y r al k nq : Nat} {rk kn ar ac : Int} {zs : Nat → Int} {Q : AQ} (hr5 : r ≤ 5) (hal : al ≤ 5) (hk : k ≤ 5) (hCb : ∀ a e, a < r → e < al → ab (zs (365 + 5 * a + e)) ≤ QX) {p : Nat} (hp : p < 2 ^ r) (hKK : ∀ {V : AH} {z : Nat → Int}, V mo = some (moO mo rk kn ar ac) → MN g mo V z → (∀ a, ¬ (EN mo a ∨ ERC mo a) → V a = V0 a) → (∃ F : Nat → Int, V (mo + 13) = some (aIz g 5 F)) → (∃ F : Nat → Int, V (mo + 14) = some (aIz g 5 F)) → Frm zs z InF → QzI (fun a e => zs (365 + 5 * a + e)) r al k p (2 ^ al) (z 426) → AW g mX6_quotient (d + 3) 286 [(7, .int (iZ (p : Int))), (6, .int (iZ (k : Int))), (5, .int (iZ (nq : Int))), (4, .int (iZ (al : Int))), (3, .int (iZ (r : Int))), (0, .ref mo), (1, .int (iZ (x : Int))), (2, .int (iZ (y : Int)))] [] V sz Q) : ∀ (f c : Nat), c + f = 2 ^ al → ∀ {V : AH} {z : Nat → Int}, V mo = some (moO mo rk kn ar ac) → MN g mo V z → (∀ a, ¬ (EN mo a ∨ ERC mo a) → V a = V0 a) → (∃ F : Nat → Int, V (mo + 13) = some (aIz g 5 F)) → (∃ F : Nat → Int, V (mo + 14) = some (aIz g 5 F)) → Frm zs z InF → QzI (fun a e => zs (365 + 5 * a + e)) r al k p c (z 426) → AW g mX6_quotient (d + 3) 214 [(8, .int (iZ (c : Int))), (7, .int (iZ (p : Int))), (6, .int (iZ (k : Int))), (5, .int (iZ (nq : Int))), (4, .int (iZ (al : Int))), (3, .int (iZ (r : Int))), (0, .ref mo), (1, .int (iZ (x : Int))), (2, .int (iZ (y : Int)))] [] V sz Q
  | 0, c, hf, V, z, hmo, hM, hV, h13, h14, hF, hI => by
    obtain rfl : c = 2 ^ al := by omega
    have hpa9 : 2 ^ al ≤ 32 := (pw6 ⟨al, by omega⟩).2
    obtain ⟨F13, h13'⟩ := id h13
    obtain ⟨F14, h14'⟩ := id h14
    obtain ⟨pr, hpr⟩ : ∃ pr : Nat, 2 ^ r = pr := ⟨_, rfl⟩
    have hprZ : (2 : Int) ^ r = (pr : Int) := by rw [← hpr, Int.natCast_pow]; rfl
    have hpr2 : 1 ≤ 2 ^ r ∧ 2 ^ r ≤ 32 := pw6 ⟨r, by omega⟩
    obtain ⟨pa, hpa⟩ : ∃ pa : Nat, 2 ^ al = pa := ⟨_, rfl⟩
    have hpaZ : (2 : Int) ^ al = (pa : Int) := by rw [← hpa, Int.natCast_pow]; rfl
    have hpa2 : 1 ≤ 2 ^ al ∧ 2 ^ al ≤ 32 := pw6 ⟨al, by omega⟩
    refine aw_iload dX6_quotient_214 (by rfl) ?_
    refine aw_iconstZ dX6_quotient_216 ?_
    refine aw_iload dX6_quotient_217 (by rfl) ?_
    refine aw_ishl1Z al dX6_quotient_219 rfl (by omega) ?_
    rw [hpaZ]
    refine aw_icmp_geZ (tgt := 286) dX6_quotient_220 (by decide) (by omega) (by omega) (fun hc_220 => ?_) (fun hc_220 => ?_)
    · refine aw_pk [7, 6, 5, 4, 3, 0, 1, 2] (by rfl) ?_
      exact hKK hmo hM hV h13 h14 hF hI
    · exact absurd hc_220 (by omega)
  | f + 1, c, hf, V, z, hmo, hM, hV, h13, h14, hF, hI => by
    have IH := fun c hc => @qg_c d g V0 mo sz x y r al k nq rk kn ar ac zs Q hr5 hal hk hCb p hp hKK f c hc
    obtain ⟨F13, h13'⟩ := id h13
    obtain ⟨F14, h14'⟩ := id h14
    obtain ⟨pr, hpr⟩ : ∃ pr : Nat, 2 ^ r = pr := ⟨_, rfl⟩
    have hprZ : (2 : Int) ^ r = (pr : Int) := by rw [← hpr, Int.natCast_pow]; rfl
    have hpr2 : 1 ≤ 2 ^ r ∧ 2 ^ r ≤ 32 := pw6 ⟨r, by omega⟩
    obtain ⟨pa, hpa⟩ : ∃ pa : Nat, 2 ^ al = pa := ⟨_, rfl⟩
    have hpaZ : (2 : Int) ^ al = (pa : Int) := by rw [← hpa, Int.natCast_pow]; rfl
    have hpa2 : 1 ≤ 2 ^ al ∧ 2 ^ al ≤ 32 := pw6 ⟨al, by omega⟩
    have hp5 := rkb_le p 5
    have hc5 := rkb_le c 5
    refine aw_iload dX6_quotient_214 (by rfl) ?_
    refine aw_iconstZ dX6_quotient_216 ?_
    refine aw_iload dX6_quotient_217 (by rfl) ?_
    refine aw_ishl1Z al dX6_quotient_219 rfl (by omega) ?_
    rw [hpaZ]
    refine aw_icmp_geZ (tgt := 286) dX6_quotient_220 (by decide) (by omega) (by omega) (fun hc_220 => ?_) (fun hc_220 => ?_)
    · exact absurd hc_220 (by omega)
    · refine aw_iload dX6_quotient_223 (by rfl) ?_
      refine aw_calls sX6_204 dX6_quotient_225 (m_ones g (d + 2) (s := p) (by omega)) (by rfl) (by rfl) (by omega) (Nat.le_of_ble_eq_true rfl) ?_
      rintro _ _ _ _ _ ⟨rfl, rfl, rfl, rfl, rfl⟩ -
      refine q0 ?_
      refine aw_iload dX6_quotient_228 (by rfl) ?_
      refine aw_icmp_neZ (tgt := 280) dX6_quotient_230 (by decide) (by omega) (by omega) (fun hc_230 => ?_) (fun hc_230 => ?_)
      · refine aw_iincZ dX6_quotient_280 (by rfl) (by decide) ?_
        refine aw_goto (tgt := 214) dX6_quotient_283 (by decide) ?_
        rw [show ((c : Int) + 1) = ((c + 1 : Nat) : Int) by omega]
        refine aw_pk [8, 7, 6, 5, 4, 3, 0, 1, 2] (by rfl) ?_
        first
        | exact IH (c + 1) (by omega) ((hE4 mo (by unfold EN; omega)).trans hmo3) hM4 (fun a ha => (hE4 a (fun z => ha (Or.inl z))).trans ((hE3 a (fun z => ha (Or.inl z))).trans ((hE2 a (fun z => ha (Or.inr (Or.inr z)))).trans ((hE1 a (fun z => ha (Or.inr (Or.inl z)))).trans (hV a ha))))) ⟨F1, (hE4 _ (by unfold EN; omega)).trans ((hE3 _ (by unfold EN; omega)).trans h132)⟩ ⟨F2, (hE4 _ (by unfold EN; omega)).trans ((hE3 _ (by unfold EN; omega)).trans hF2)⟩ (fun q hq => by unfold InF at hq; rw [hCo4 q (by omega) (by omega) (by omega), hz3 q (by omega) (by omega)]; exact hF q (by unfold InF; omega)) (hI.step (by omega) (by omega) hok (by rw [h4264]; omega) (fun d => by rw [h4264, Int.dvd_coe_gcd_iff, hz3 426 (by omega) (by omega), h4243, det_congr (fun a b ha hb => hze a b ha hb)]))
        | exact IH (c + 1) (by omega) hmo hM hV h13 h14 hF (hI.skip (fun z => by obtain ⟨z1, z2, z3, z4⟩ := z; omega))
      · refine aw_iload dX6_quotient_233 (by rfl) ?_
        refine aw_calls sX6_204 dX6_quotient_235 (m_ones g (d + 2) (s := c) (by omega)) (by rfl) (by rfl) (by omega) (Nat.le_of_ble_eq_true rfl) ?_
        rintro _ _ _ _ _ ⟨rfl, rfl, rfl, rfl, rfl⟩ -
        refine q0 ?_
        refine aw_iload dX6_quotient_238 (by rfl) ?_
        refine aw_icmp_eqZ (tgt := 246) dX6_quotient_240 (by decide) (by omega) (by omega) (fun hc_240 => ?_) (fun hc_240 => ?_)
        · refine aw_aload_n dX6_quotient_246 (by rfl) (Or.inr ⟨_, rfl⟩) ?_
          refine aw_get fX6_49 dX6_quotient_247 hmo (by rfl) ?_
          refine aw_iload dX6_quotient_250 (by rfl) ?_
          refine aw_calls sX6_169 dX6_quotient_252 (m_tellB g (d + 2) (s := p) (by omega) h13') (by rfl) (by rfl) (by omega) (Nat.le_of_ble_eq_true rfl) ?_
          rintro _ V1 _ _ _ ⟨rfl, rfl, rfl, hE1, rfl, F1, hF1, hf1⟩ -
          refine q0 ?_
          have hmo1 := (hE1 mo (by omega)).trans hmo
          have h141 := (hE1 (mo + 14) (by omega)).trans h14'
          refine aw_aload_n dX6_quotient_255 (by rfl) (Or.inr ⟨_, rfl⟩) ?_
          refine aw_get fX6_52 dX6_quotient_256 hmo1 (by rfl) ?_
          refine aw_iload dX6_quotient_259 (by rfl) ?_
          refine aw_calls sX6_169 dX6_quotient_261 (m_tellB g (d + 2) (s := c) (by omega) h141) (by rfl) (by rfl) (by omega) (Nat.le_of_ble_eq_true rfl) ?_
          rintro _ V2 _ _ _ ⟨rfl, rfl, rfl, hE2, rfl, F2, hF2, hf2⟩ -
          refine q0 ?_
          have hmo2 := (hE2 mo (by omega)).trans hmo1
          have h132 := (hE2 (mo + 13) (by omega)).trans hF1
          have hM2 := hM.kept (V' := V2) (fun a ha => (hE2 a (by unfold EN at ha; omega)).trans (hE1 a (by unfold EN at ha; omega)))
          have hok : OkP k r al p c := ⟨by omega, by omega, by omega, by omega⟩
          have hpb : ∀ a, a < k → psb p a < r := fun a ha => bt21 ⟨p, by omega⟩ ⟨r, by omega⟩ hok.1 ⟨a, by omega⟩ (show a < rkb p 5 by omega)
          have hcb : ∀ a, a < k → psb c a < al := fun a ha => bt21 ⟨c, by omega⟩ ⟨al, by omega⟩ hok.2.1 ⟨a, by omega⟩ (show a < rkb c 5 by omega)
          have hze : ∀ a b, a < k → b < k → z (365 + 5 * psb p a + psb c b) = zs (365 + 5 * psb p a + psb c b) := fun a b ha hb => hF _ (by have := hpb a ha; have := hcb b hb; unfold InF; omega)
          refine aw_aload_n dX6_quotient_264 (by rfl) (Or.inr ⟨_, rfl⟩) ?_
          refine aw_iload dX6_quotient_265 (by rfl) ?_
          refine aw_callv vX6_236 dX6_quotient_267 hmo2 (m_minorOf g d (k := k) (X := QX) (ra := psb p) (ca := psb c) hmo2 hM2 qX1 qX_sm (fun a b ha hb => by rw [hze a b ha hb]; exact hCb _ _ (hpb a ha) (hcb b hb)) hk h132 hF2 (fun a ha => ⟨hf1 a (by omega), by have := hpb a ha; omega⟩) (fun a ha => ⟨hf2 a (by omega), by have := hcb a ha; omega⟩)) (by rfl) (by rfl) (by omega) (Nat.le_of_ble_eq_true rfl) ?_
          rintro _ V3 _ _ _ ⟨rfl, rfl, rfl, hE3, rfl, z3, hM3, h4243, hz3⟩ -
          refine q0 ?_
          have hmo3 := (hE3 mo (by unfold EN; omega)).trans hmo2
          refine aw_aload_n dX6_quotient_270 (by rfl) (Or.inr ⟨_, rfl⟩) ?_
          refine aw_sipushZ dX6_quotient_271 (by decide) ?_
          refine aw_topi (y := ((426 : Nat) : Int)) (by omega) ?_
          refine aw_sipushZ dX6_quotient_274 (by decide) ?_
          refine aw_topi (y := ((424 : Nat) : Int)) (by omega) ?_
          refine aw_callv vX6_224 dX6_quotient_277 hmo3 (m_commonOf g d (a := 426) (e := 424) hmo3 hM3 (by omega) (by omega) (by omega) (by omega) (by omega)) (by rfl) (by rfl) (by omega) (Nat.le_of_ble_eq_true rfl) ?_
          rintro _ V4 _ _ _ ⟨rfl, rfl, rfl, hE4, rfl, z4, hM4, h4264, -, hCo4⟩ -
          refine q0 ?_
          refine aw_iincZ dX6_quotient_280 (by rfl) (by decide) ?_
          refine aw_goto (tgt := 214) dX6_quotient_283 (by decide) ?_
          rw [show ((c : Int) + 1) = ((c + 1 : Nat) : Int) by omega]
          refine aw_pk [8, 7, 6, 5, 4, 3, 0, 1, 2] (by rfl) ?_
          first
          | exact IH (c + 1) (by omega) ((hE4 mo (by unfold EN; omega)).trans hmo3) hM4 (fun a ha => (hE4 a (fun z => ha (Or.inl z))).trans ((hE3 a (fun z => ha (Or.inl z))).trans ((hE2 a (fun z => ha (Or.inr (Or.inr z)))).trans ((hE1 a (fun z => ha (Or.inr (Or.inl z)))).trans (hV a ha))))) ⟨F1, (hE4 _ (by unfold EN; omega)).trans ((hE3 _ (by unfold EN; omega)).trans h132)⟩ ⟨F2, (hE4 _ (by unfold EN; omega)).trans ((hE3 _ (by unfold EN; omega)).trans hF2)⟩ (fun q hq => by unfold InF at hq; rw [hCo4 q (by omega) (by omega) (by omega), hz3 q (by omega) (by omega)]; exact hF q (by unfold InF; omega)) (hI.step (by omega) (by omega) hok (by rw [h4264]; omega) (fun d => by rw [h4264, Int.dvd_coe_gcd_iff, hz3 426 (by omega) (by omega), h4243, det_congr (fun a b ha hb => hze a b ha hb)]))
          | exact IH (c + 1) (by omega) hmo hM hV h13 h14 hF (hI.skip (fun z => by obtain ⟨z1, z2, z3, z4⟩ := z; omega))
        · refine aw_goto (tgt := 280) dX6_quotient_243 (by decide) ?_
          refine aw_iincZ dX6_quotient_280 (by rfl) (by decide) ?_
          refine aw_goto (tgt := 214) dX6_quotient_283 (by decide) ?_
          rw [show ((c : Int) + 1) = ((c + 1 : Nat) : Int) by omega]
          refine aw_pk [8, 7, 6, 5, 4, 3, 0, 1, 2] (by rfl) ?_
          first
          | exact IH (c + 1) (by omega) ((hE4 mo (by unfold EN; omega)).trans hmo3) hM4 (fun a ha => (hE4 a (fun z => ha (Or.inl z))).trans ((hE3 a (fun z => ha (Or.inl z))).trans ((hE2 a (fun z => ha (Or.inr (Or.inr z)))).trans ((hE1 a (fun z => ha (Or.inr (Or.inl z)))).trans (hV a ha))))) ⟨F1, (hE4 _ (by unfold EN; omega)).trans ((hE3 _ (by unfold EN; omega)).trans h132)⟩ ⟨F2, (hE4 _ (by unfold EN; omega)).trans ((hE3 _ (by unfold EN; omega)).trans hF2)⟩ (fun q hq => by unfold InF at hq; rw [hCo4 q (by omega) (by omega) (by omega), hz3 q (by omega) (by omega)]; exact hF q (by unfold InF; omega)) (hI.step (by omega) (by omega) hok (by rw [h4264]; omega) (fun d => by rw [h4264, Int.dvd_coe_gcd_iff, hz3 426 (by omega) (by omega), h4243, det_congr (fun a b ha hb => hze a b ha hb)]))
          | exact IH (c + 1) (by omega) hmo hM hV h13 h14 hF (hI.skip (fun z => by obtain ⟨z1, z2, z3, z4⟩ := z; omega))
set_option maxRecDepth 20000 in
theorem qg_p (d : Nat) {g : GX} {V0 : AH} {mo sz x y r al k nq : Nat} {rk kn ar ac : Int} {zs : Nat → Int} {Q : AQ} (hr5 : r ≤ 5) (hal : al ≤ 5) (hk : k ≤ 5) (hCb : ∀ a e, a < r → e < al → ab (zs (365 + 5 * a + e)) ≤ QX) (hKK : ∀ {V : AH} {z : Nat → Int}, V mo = some (moO mo rk kn ar ac) → MN g mo V z → (∀ a, ¬ (EN mo a ∨ ERC mo a) → V a = V0 a) → (∃ F : Nat → Int, V (mo + 13) = some (aIz g 5 F)) → (∃ F : Nat → Int, V (mo + 14) = some (aIz g 5 F)) → Frm zs z InF → QzI (fun a e => zs (365 + 5 * a + e)) r al k (2 ^ r) 0 (z 426) → AW g mX6_quotient (d + 3) 292 [(6, .int (iZ (k : Int))), (5, .int (iZ (nq : Int))), (4, .int (iZ (al : Int))), (3, .int (iZ (r : Int))), (0, .ref mo), (1, .int (iZ (x : Int))), (2, .int (iZ (y : Int)))] [] V sz Q) : ∀ (f p : Nat), p + f = 2 ^ r → ∀ {V : AH} {z : Nat → Int}, V mo = some (moO mo rk kn ar ac) → MN g mo V z → (∀ a, ¬ (EN mo a ∨ ERC mo a) → V a = V0 a) → (∃ F : Nat → Int, V (mo + 13) = some (aIz g 5 F)) → (∃ F : Nat → Int, V (mo + 14) = some (aIz g 5 F)) → Frm zs z InF → QzI (fun a e => zs (365 + 5 * a + e)) r al k p 0 (z 426) → AW g mX6_quotient (d + 3) 203 [(7, .int (iZ (p : Int))), (6, .int (iZ (k : Int))), (5, .int (iZ (nq : Int))), (4, .int (iZ (al : Int))), (3, .int (iZ (r : Int))), (0, .ref mo), (1, .int (iZ (x : Int))), (2, .int (iZ (y : Int)))] [] V sz Q
  | 0, p, hf, V, z, hmo, hM, hV, h13, h14, hF, hI => by
    obtain rfl : p = 2 ^ r := by omega
    have hpr9 : 2 ^ r ≤ 32 := (pw6 ⟨r, by omega⟩).2
    obtain ⟨F13, h13'⟩ := id h13
    obtain ⟨F14, h14'⟩ := id h14
    obtain ⟨pr, hpr⟩ : ∃ pr : Nat, 2 ^ r = pr := ⟨_, rfl⟩
    have hprZ : (2 : Int) ^ r = (pr : Int) := by rw [← hpr, Int.natCast_pow]; rfl
    have hpr2 : 1 ≤ 2 ^ r ∧ 2 ^ r ≤ 32 := pw6 ⟨r, by omega⟩
    obtain ⟨pa, hpa⟩ : ∃ pa : Nat, 2 ^ al = pa := ⟨_, rfl⟩
    have hpaZ : (2 : Int) ^ al = (pa : Int) := by rw [← hpa, Int.natCast_pow]; rfl
    have hpa2 : 1 ≤ 2 ^ al ∧ 2 ^ al ≤ 32 := pw6 ⟨al, by omega⟩
    refine aw_iload dX6_quotient_203 (by rfl) ?_
    refine aw_iconstZ dX6_quotient_205 ?_
    refine aw_iload_n dX6_quotient_206 (by rfl) ?_
    refine aw_ishl1Z r dX6_quotient_207 rfl (by omega) ?_
    rw [hprZ]
    refine aw_icmp_geZ (tgt := 292) dX6_quotient_208 (by decide) (by omega) (by omega) (fun hc_208 => ?_) (fun hc_208 => ?_)
    · refine aw_pk [6, 5, 4, 3, 0, 1, 2] (by rfl) ?_
      exact hKK hmo hM hV h13 h14 hF hI
    · exact absurd hc_208 (by omega)
  | f + 1, p, hf, V, z, hmo, hM, hV, h13, h14, hF, hI => by
    have IH := fun p hp => @qg_p d g V0 mo sz x y r al k nq rk kn ar ac zs Q hr5 hal hk hCb hKK f p hp
    obtain ⟨F13, h13'⟩ := id h13
    obtain ⟨F14, h14'⟩ := id h14
    obtain ⟨pr, hpr⟩ : ∃ pr : Nat, 2 ^ r = pr := ⟨_, rfl⟩
    have hprZ : (2 : Int) ^ r = (pr : Int) := by rw [← hpr, Int.natCast_pow]; rfl
    have hpr2 : 1 ≤ 2 ^ r ∧ 2 ^ r ≤ 32 := pw6 ⟨r, by omega⟩
    obtain ⟨pa, hpa⟩ : ∃ pa : Nat, 2 ^ al = pa := ⟨_, rfl⟩
    have hpaZ : (2 : Int) ^ al = (pa : Int) := by rw [← hpa, Int.natCast_pow]; rfl
    have hpa2 : 1 ≤ 2 ^ al ∧ 2 ^ al ≤ 32 := pw6 ⟨al, by omega⟩
    refine aw_iload dX6_quotient_203 (by rfl) ?_
    refine aw_iconstZ dX6_quotient_205 ?_
    refine aw_iload_n dX6_quotient_206 (by rfl) ?_
    refine aw_ishl1Z r dX6_quotient_207 rfl (by omega) ?_
    rw [hprZ]
    refine aw_icmp_geZ (tgt := 292) dX6_quotient_208 (by decide) (by omega) (by omega) (fun hc_208 => ?_) (fun hc_208 => ?_)
    · exact absurd hc_208 (by omega)
    · refine aw_iconstZ dX6_quotient_211 ?_
      refine aw_istore dX6_quotient_212 (by decide) ?_
      refine aw_pk [8, 7, 6, 5, 4, 3, 0, 1, 2] (by rfl) ?_
      refine qg_c d (V0 := V0) (zs := zs) (rk := rk) (kn := kn) (ar := ar) (ac := ac) hr5 hal hk hCb (p := p) (by omega) (fun {V1 z1} hmo1 hM1 hV1 h131 h141 hF1 hI1 => ?_) (2 ^ al) 0 (by omega) hmo hM hV h13 h14 hF hI
      refine aw_iincZ dX6_quotient_286 (by rfl) (by decide) ?_
      refine aw_goto (tgt := 203) dX6_quotient_289 (by decide) ?_
      rw [show ((p : Int) + 1) = ((p + 1 : Nat) : Int) by omega]
      refine aw_pk [7, 6, 5, 4, 3, 0, 1, 2] (by rfl) ?_
      exact IH (p + 1) (by omega) hmo1 hM1 hV1 h131 h141 hF1 hI1.row

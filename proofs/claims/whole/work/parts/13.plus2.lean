/-! ===== Whole.plus, whole ===== -/
def pad (F : Nat → Int) (n : Nat) : Nat → Int := fun j => if j < n then F j else 0
theorem mg_pad {B : Int} {F : Nat → Int} {n : Nat} : ∀ {l : Nat}, n ≤ l → mg B (pad F n) l = mg B F n
  | 0, h => by
    obtain rfl : n = 0 := by omega
    rfl
  | l + 1, h => by
    by_cases hq : n = l + 1
    · subst hq
      exact mg_congr (fun k hk => by simp [pad, hk])
    · simp only [mg]
      rw [mg_pad (l := l) (by omega)]
      simp [pad, show ¬ l < n by omega]
theorem mg_neg {B : Int} {F G : Nat → Int} (h : ∀ j, G j = - F j) : ∀ n, mg B G n = - mg B F n
  | 0 => rfl
  | n + 1 => by
    simp only [mg]
    rw [mg_neg h n, h n, Int.neg_mul]
    omega
theorem pad_lim {F : Nat → Int} {n L : Nat} (hn : n ≤ L) (h : ∀ k, k < L → 0 ≤ F k ∧ F k < 2147483648) : ∀ j, 0 ≤ pad F n j ∧ pad F n j < 2147483648 := fun j => by
  unfold pad; split
  · exact h j (by omega)
  · omega
theorem top_le {F : Nat → Int} {n L c : Nat} (hn : n ≤ L) (hF : ∀ k, k < L → 0 ≤ F k ∧ F k < 2147483648) (ht : n = 0 ∨ F (n - 1) ≠ 0) (h : mg 2147483648 F n < 2147483648 ^ c) : n ≤ c := by
  rcases Nat.eq_zero_or_pos n with h0 | h0
  · omega
  · obtain ⟨k, rfl⟩ : ∃ k, n = k + 1 := ⟨n - 1, by omega⟩
    have h1 := mg_top (show (0 : Int) < 2147483648 by omega) (F := F) (n := k) (fun j hj => hF j (by omega)) (by rcases ht with h2 | h2; exact absurd h2 (by omega); simpa using h2)
    have h2 := pw_lt_inv (show (1 : Int) ≤ 2147483648 by omega) (show (2147483648 : Int) ^ k < 2147483648 ^ c by omega)
    omega
/-- what trim leaves is the number -/
theorem WhV.trim {g : GX} {V : AH} {w n p L : Nat} {σ s z : Int} {F : Nat → Int} (h : Whl g V w s n p L F) (hz : mg 2147483648 F n = (z.natAbs : Int)) (hσ : z ≠ 0 → σ = z.sign) : WhV g (AHu V w (whO (if trimN F n = 0 then 0 else σ) (trimN F n) p)) w z p L := by
  obtain ⟨h1, h2, h3, h4, h5, h6, h7⟩ := id h
  have hl := trimN_le F n
  have ht := trimN_top F n
  have hm : mg 2147483648 F (trimN F n) = (z.natAbs : Int) := by rw [mg_trim]; exact hz
  have hzz := mg_zero (show (0 : Int) < 2147483648 by omega) (F := F) (n := trimN F n) (fun k hk => h7 k (by omega)) ht
  have hsg : (if trimN F n = 0 then 0 else σ) = z.sign := by
    by_cases hq : trimN F n = 0
    · rw [if_pos hq]
      have : z = 0 := by
        have := hzz.mpr hq
        omega
      subst this
      rfl
    · rw [if_neg hq]
      exact hσ (fun h0 => hq (hzz.mp (by rw [hm, h0]; rfl)))
  rw [hsg]
  exact ⟨trimN F n, F, h.set (by omega), hm, ht⟩
theorem carry0 {a c S P : Int} (h : a + c * P = S) (ha : 0 ≤ a ∧ a < P) (hS : 0 ≤ S ∧ S < P) (hc : -1 ≤ c ∧ c ≤ 1) : c = 0 := by
  rcases (show c = -1 ∨ c = 0 ∨ c = 1 by omega) with rfl | rfl | rfl <;> omega
theorem plus_tail (g : GX) (d : Nat) {V0 V : AH} {sz0 sz p0 w u p L n len L0 mc ms : Nat} {F : Nat → Int} {s op sm th σ z' : Int} (hW : Whl g V w s n p L F) (hlen : len ≤ L) (hz : mg 2147483648 F len = (z'.natAbs : Int)) (hσ : z' ≠ 0 → σ = z'.sign) (hσ0 : s = 0 → th = σ) (hσ1 : ¬ s = 0 → sm = 0 → s = σ) (hσ2 : ¬ s = 0 → ¬ sm = 0 → th = σ) (hs32 : R32 s) (hsm32 : R32 sm) (hfr : Fr V0 sz0 V w p0) (hD : DL V sz) (hp0 : p = w ∨ p = p0 ∨ sz0 ≤ p) (hc : L0 + mc ≤ L) (hs : L0 * L0 + ms ≤ L * L) : AW g mX4_plus (d + 3) 200 [(8, .int (iZ len)), (5, .int (iZ sm)), (4, .int (iZ op)), (3, .int (iZ th)), (0, .ref w), (1, .ref u)] [] V sz (fun r2 V2 sz2 dc ds => WPost g V0 sz0 w p0 L0 z' r2 V2 sz2 (mc + dc) (ms + ds)) := by
  obtain ⟨hw, hp, hwp, hn, h4, hL, hF⟩ := id hW
  have hW2 : Whl g (AHu (AHu V w (whO s len p)) w (whO σ len p)) w σ len p L F := (hW.set (s' := s) hlen).set hlen
  have J227 : AW g mX4_plus (d + 3) 227 [(8, .int (iZ len)), (5, .int (iZ sm)), (4, .int (iZ op)), (3, .int (iZ th)), (0, .ref w), (1, .ref u)] [.int (iZ σ), .ref w] (AHu V w (whO s len p)) sz (fun r2 V2 sz2 dc ds => WPost g V0 sz0 w p0 L0 z' r2 V2 sz2 (mc + dc) (ms + ds)) := by
    have hw1 : (AHu V w (whO s len p)) w = some (whO s len p) := AHu_self _ _ _
    refine aw_put fX4_9 dX4_plus_227 (by assumption) (by rfl) (by rfl) (Nat.le_of_ble_eq_true rfl) ?_
    show AW g mX4_plus (d + 3) _ _ _ (AHu (AHu V w (whO s len p)) w (whO σ len p)) _ _
    refine aw_aload_n dX4_plus_230 (by rfl) (Or.inr ⟨_, rfl⟩) ?_
    have hw2 : (AHu (AHu V w (whO s len p)) w (whO σ len p)) w = some (whO σ len p) := AHu_self _ _ _
    refine aw_callv vX4_71 dX4_plus_231 (by assumption) (t_trim g (d + 2) hW2) (by rfl) (by rfl) (by omega) (Nat.le_of_ble_eq_true rfl) ?_
    rintro _ _ _ _ _ ⟨rfl, rfl, rfl, rfl, rfl⟩ -
    refine aw_ret dX4_plus_234 rfl ?_
    refine ⟨rfl, p, L, WhV.trim hW2 hz hσ, by omega, by omega, hp0.elim (fun h => absurd h hwp.symm) id, ?_, ?_⟩
    · exact ((hfr.upd (Or.inl rfl)).upd (Or.inl rfl)).upd (Or.inl rfl)
    · exact ((hD.upd (hD.lt hw)).upd (hD.lt hw)).upd (hD.lt hw)
  refine aw_aload_n dX4_plus_200 (by rfl) (Or.inr ⟨_, rfl⟩) ?_
  refine aw_iload dX4_plus_201 (by rfl) ?_
  refine aw_put fX4_15 dX4_plus_203 (by assumption) (by rfl) (by rfl) (Nat.le_of_ble_eq_true rfl) ?_
  have hw1 : (AHu V w (whO s len p)) w = some (whO s len p) := AHu_self _ _ _
  have hW1 : Whl g (AHu V w (whO s len p)) w s len p L F := hW.set (by omega)
  show AW g mX4_plus (d + 3) _ _ _ (AHu V w (whO s len p)) _ _
  refine aw_aload_n dX4_plus_206 (by rfl) (Or.inr ⟨_, rfl⟩) ?_
  refine aw_aload_n dX4_plus_207 (by rfl) (Or.inr ⟨_, rfl⟩) ?_
  refine aw_get fX4_9 dX4_plus_208 (by assumption) (by rfl) ?_
  refine aw_if_eqZ (tgt := 219) dX4_plus_211 (by decide) hs32 (fun hc_211 => ?_) (fun hc_211 => ?_)
  · refine aw_iload_n dX4_plus_219 (by rfl) ?_
    refine aw_goto (tgt := 227) dX4_plus_220 (by decide) ?_
    refine aw_topi (y := σ) (by first | exact hσ0 hc_211 | exact hσ1 hc_211 hc_216 | exact hσ2 hc_211 hc_216) ?_
    exact J227
  · refine aw_iload dX4_plus_214 (by rfl) ?_
    refine aw_if_eqZ (tgt := 223) dX4_plus_216 (by decide) hsm32 (fun hc_216 => ?_) (fun hc_216 => ?_)
    · refine aw_aload_n dX4_plus_223 (by rfl) (Or.inr ⟨_, rfl⟩) ?_
      refine aw_get fX4_9 dX4_plus_224 (by assumption) (by rfl) ?_
      refine aw_topi (y := σ) (by first | exact hσ0 hc_211 | exact hσ1 hc_211 hc_216 | exact hσ2 hc_211 hc_216) ?_
      exact J227
    · refine aw_iload_n dX4_plus_219 (by rfl) ?_
      refine aw_goto (tgt := 227) dX4_plus_220 (by decide) ?_
      refine aw_topi (y := σ) (by first | exact hσ0 hc_211 | exact hσ1 hc_211 hc_216 | exact hσ2 hc_211 hc_216) ?_
      exact J227
theorem plus_mid (g : GX) (d : Nat) {V : AH} {sz w u p q L K n mm x y nx ny : Nat} {F G A Bs D : Nat → Int} {s t op sm th σ z' S : Int} (hW : Whl g V w s n p L F) (hU : Whl g V u t mm q K G) (hD : DL V sz) (hwu : w ≠ u) (hpq : p ≠ q) (hwq : w ≠ q) (hpu : p ≠ u) (hn150 : n ≤ 150) (hm150 : mm ≤ 150) (hxy : (x = w ∧ nx = n ∧ A = pad F n ∧ y = u ∧ ny = mm ∧ Bs = pad G mm) ∨ (x = u ∧ nx = mm ∧ A = pad G mm ∧ y = w ∧ ny = n ∧ Bs = pad F n)) (hopR : op = 0 ∨ op = 1) (hDp : op = 0 → ∀ j, D j = Bs j) (hDm : op ≠ 0 → ∀ j, D j = - Bs j) (hS : mg 2147483648 A (max n mm + 1) + mg 2147483648 D (max n mm + 1) = S) (hS0 : 0 ≤ S ∧ S < 2147483648 ^ (max n mm + 1)) (hz' : S = (z'.natAbs : Int)) (hσ : z' ≠ 0 → σ = z'.sign) (hσ0 : s = 0 → th = σ) (hσ1 : ¬ s = 0 → sm = 0 → s = σ) (hσ2 : ¬ s = 0 → ¬ sm = 0 → th = σ) (hs32 : R32 s) (hsm32 : R32 sm) : AW g mX4_plus (d + 3) 72 [(7, .ref y), (6, .ref x), (5, .int (iZ sm)), (4, .int (iZ op)), (3, .int (iZ th)), (0, .ref w), (1, .ref u)] [] V sz (WPost g V sz w p L z') := by
  obtain ⟨hw, hp, hwp, hn, h4, hL, hF⟩ := id hW
  obtain ⟨hu, hq, huq, hm1, h4', hK, hG⟩ := id hU
  refine aw_aload_n dX4_plus_72 (by rfl) (Or.inr ⟨_, rfl⟩) ?_
  refine aw_get fX4_15 dX4_plus_73 (by assumption) (by rfl) ?_
  refine aw_aload_n dX4_plus_76 (by rfl) (Or.inr ⟨_, rfl⟩) ?_
  refine aw_get fX4_15 dX4_plus_77 (by assumption) (by rfl) ?_
  refine aw_max sX4_65.2.2 dX4_plus_80 (by omega) (by omega) (by omega) (Nat.le_of_ble_eq_true rfl) ?_
  refine aw_iconstZ dX4_plus_83 ?_
  refine aw_iaddZ dX4_plus_84 ?_
  refine aw_topi (y := ((max n mm + 1 : Nat) : Int)) (by omega) ?_
  refine aw_istore dX4_plus_85 (by decide) ?_
  refine aw_aload_n dX4_plus_87 (by rfl) (Or.inr ⟨_, rfl⟩) ?_
  refine aw_iload dX4_plus_88 (by rfl) ?_
  refine aw_callv vX4_36 dX4_plus_90 (by assumption) (t_makeRoom g d hW hD (len := max n mm + 1) (by omega)) (by rfl) (by rfl) (by omega) (Nat.le_of_ble_eq_true rfl) ?_
  rintro r V1 sz1 mc ms ⟨rfl, p1, L1, F1, hW1, hl1, hc1, hs1, hF1, hp1, hfr1, hD1⟩ hdm
  have hus := hD.lt hu
  have hqs := hD.lt hq
  have hps := hD.lt hp
  have hws := hD.lt hw
  have hU1 : Whl g V1 u t mm q K G := hU.kept (hfr1 u hus hwu.symm hpu.symm) (hfr1 q hqs hwq.symm hpq.symm)
  have hp1u : p1 ≠ u := by omega
  have hwp1 : w ≠ p1 := hW1.2.2.1
  have hRw : ∃ (sx : Int) (px Lx : Nat) (Fx : Nat → Int), Whl g V1 w sx n px Lx Fx ∧ ∀ j, 0 ≤ j → j < n → Fx j = pad F n j := ⟨s, p1, L1, F1, hW1, fun j _ hj => by rw [hF1 j (by omega)]; simp [pad, hj]⟩
  have hRu : ∃ (sx : Int) (px Lx : Nat) (Fx : Nat → Int), Whl g V1 u sx mm px Lx Fx ∧ ∀ j, 0 ≤ j → j < mm → Fx j = pad G mm j := ⟨t, q, K, G, hU1, fun j _ hj => by simp [pad, hj]⟩
  have hX : ∃ (sx : Int) (px Lx : Nat) (Fx : Nat → Int), Whl g V1 x sx nx px Lx Fx ∧ ∀ j, 0 ≤ j → j < nx → Fx j = A j := by
    rcases hxy with ⟨rfl, rfl, rfl, rfl, rfl, rfl⟩ | ⟨rfl, rfl, rfl, rfl, rfl, rfl⟩
    · exact hRw
    · exact hRu
  have hY : ∃ (sx : Int) (px Lx : Nat) (Fx : Nat → Int), Whl g V1 y sx ny px Lx Fx ∧ ∀ j, 0 ≤ j → j < ny → Fx j = Bs j := by
    rcases hxy with ⟨rfl, rfl, rfl, rfl, rfl, rfl⟩ | ⟨rfl, rfl, rfl, rfl, rfl, rfl⟩
    · exact hRu
    · exact hRw
  have hAB : (∀ j, 0 ≤ A j ∧ A j < 2147483648) ∧ (∀ j, 0 ≤ Bs j ∧ Bs j < 2147483648) ∧ (∀ j, nx ≤ j → A j = 0) ∧ (∀ j, ny ≤ j → Bs j = 0) ∧ p1 ≠ x ∧ p1 ≠ y := by
    rcases hxy with ⟨rfl, rfl, rfl, rfl, rfl, rfl⟩ | ⟨rfl, rfl, rfl, rfl, rfl, rfl⟩
    · exact ⟨pad_lim hn hF, pad_lim hm1 hG, fun j hj => by simp [pad]; omega, fun j hj => by simp [pad]; omega, hwp1.symm, hp1u⟩
    · exact ⟨pad_lim hm1 hG, pad_lim hn hF, fun j hj => by simp [pad]; omega, fun j hj => by simp [pad]; omega, hp1u, hwp1.symm⟩
  obtain ⟨q1, q2, q3, q4, q5, q6⟩ := hAB
  have IH := plus_loop g d (V0 := V) (sz0 := sz) (p0 := p) (sz := sz1) (w := w) (u := u) (x := x) (y := y) (p := p1) (L := L1) (len := max n mm + 1) (nx := nx) (ny := ny) (n := n) (s := s) (op := op) (sm := sm) (th := th) (A := A) (Bs := Bs) (D := D) (Q := fun r2 V2 sz2 dc ds => WPost g V sz w p L z' r2 V2 sz2 (mc + dc) (ms + ds)) q5 q6 hl1 hopR q1 q2 q3 q4 hDp hDm (by omega) (fun V2 F2 c2 a1 a2 a3 a4 a5 => by
    have hF2 := mg_bd (show (0 : Int) < 2147483648 by omega) (F := F2) (n := max n mm + 1) (fun j hj => a1.2.2.2.2.2.2 j (by omega))
    rw [hS] at a2
    have hc0 : c2 = 0 := carry0 a2 hF2 hS0 a3
    rw [hc0, Int.zero_mul, Int.add_zero] at a2
    exact plus_tail g d (V0 := V) (sz0 := sz) (p0 := p) (z' := z') (mc := mc) (ms := ms) (L0 := L) a1 hl1 (by rw [a2]; exact hz') hσ hσ0 hσ1 hσ2 hs32 hsm32 a4 a5 (by omega) hc1 hs1) (max n mm + 1) 0 (by omega) hW1 hX hY (by simp [mg]) (c := 0) (by omega) hfr1 hD1
  refine aw_lconstZ (z := 0) dX4_plus_93 (by decide) ?_
  refine aw_lstore dX4_plus_94 (by decide) ?_
  refine aw_iconstZ dX4_plus_96 ?_
  refine aw_istore dX4_plus_97 (by decide) ?_
  refine aw_pk [11, 9, 8, 7, 6, 5, 4, 3, 0, 1] (by rfl) ?_
  exact IH
theorem sg_cases (z : Int) : (z < 0 ∧ z.sign = -1 ∧ (z.natAbs : Int) = -z) ∨ (z = 0 ∧ z.sign = 0 ∧ (z.natAbs : Int) = 0) ∨ (0 < z ∧ z.sign = 1 ∧ (z.natAbs : Int) = z) := by
  rcases Int.lt_trichotomy z 0 with h | h | h
  · exact Or.inl ⟨h, Int.sign_eq_neg_one_of_neg h, by omega⟩
  · exact Or.inr (Or.inl ⟨h, by subst h; rfl, by omega⟩)
  · exact Or.inr (Or.inr ⟨h, Int.sign_eq_one_of_pos h, by omega⟩)
theorem t_plus (g : GX) (d : Nat) {w p L u q K : Nat} {z y f : Int} {V : AH} {sz : Nat} (hWV : WhV g V w z p L) (hUV : WhV g V u y q K) (hD : DL V sz) (hwu : w ≠ u) (hpq : p ≠ q) (hwq : w ≠ q) (hpu : p ≠ u) (hf : f = 1 ∨ f = -1) (hz : (z.natAbs : Int) < 2147483648 ^ 150) (hy : (y.natAbs : Int) < 2147483648 ^ 150) : AMet g mX4_plus (d + 3) [.ref w, .ref u, .int (iZ f)] V sz (WPost g V sz w p L (z + f * y)) := by
  obtain ⟨n, F, hW, hmg, htop⟩ := id hWV
  obtain ⟨mm, G, hU, hmu, htopu⟩ := id hUV
  obtain ⟨hw, hp, hwp, hn, h4, hL, hF⟩ := id hW
  obtain ⟨hu, hq, huq, hm1, h4', hK, hG⟩ := id hU
  have hn150 : n ≤ 150 := top_le hn hF htop (by rw [hmg]; exact hz)
  have hm150 : mm ≤ 150 := top_le hm1 hG htopu (by rw [hmu]; exact hy)
  have hzc := sg_cases z
  have hyc := sg_cases y
  have hs32 : R32 z.sign := sgn_R z
  have hth : y.sign * f = 0 ∨ y.sign * f = 1 ∨ y.sign * f = -1 := by
    rcases hf with rfl | rfl <;> omega
  have hth32 : R32 (y.sign * f) := by omega
  have hnth32 : R32 (-(y.sign * f)) := by omega
  have hy_of : y.sign * f = 0 → y = 0 := fun h => by
    rcases hf with rfl | rfl <;> omega
  have hp1 := mg_pad (B := 2147483648) (F := F) (n := n) (l := max n mm + 1) (by omega)
  have hp2 := mg_pad (B := 2147483648) (F := G) (n := mm) (l := max n mm + 1) (by omega)
  rw [hmg] at hp1
  rw [hmu] at hp2
  have hbz : (z.natAbs : Int) < 2147483648 ^ max n mm := by
    rw [← hmg]
    have h1 := (mg_bd (show (0 : Int) < 2147483648 by omega) (F := F) (n := n) (fun k hk => hF k (by omega))).2
    have h2 := pw_le (show (1 : Int) ≤ 2147483648 by omega) (show n ≤ max n mm by omega)
    omega
  have hby : (y.natAbs : Int) < 2147483648 ^ max n mm := by
    rw [← hmu]
    have h1 := (mg_bd (show (0 : Int) < 2147483648 by omega) (F := G) (n := mm) (fun k hk => hG k (by omega))).2
    have h2 := pw_le (show (1 : Int) ≤ 2147483648 by omega) (show mm ≤ max n mm by omega)
    omega
  have hbig : ∀ S : Int, 0 ≤ S → S ≤ (z.natAbs : Int) + (y.natAbs : Int) → 0 ≤ S ∧ S < 2147483648 ^ (max n mm + 1) := fun S h1 h2 => by
    rw [Int.pow_succ]
    generalize (2147483648 : Int) ^ max n mm = P at hbz hby
    omega
  clear hbz hby
  have K0 : ¬ y.sign * f = 0 → ¬ z.sign = -(y.sign * f) → AW g mX4_plus (d + 3) 72 [(7, .ref u), (6, .ref w), (5, .int (iZ 0)), (4, .int (iZ 0)), (3, .int (iZ (y.sign * f))), (0, .ref w), (1, .ref u)] [] V sz (WPost g V sz w p L (z + f * y)) := fun h1 h2 => by
    have hcase : (z.natAbs : Int) + (y.natAbs : Int) = ((z + f * y).natAbs : Int) ∧ (z + f * y ≠ 0 → y.sign * f = (z + f * y).sign) ∧ (¬ z.sign = 0 → z.sign = y.sign * f) := by
      have hsc := sg_cases (z + f * y)
      rcases hf with rfl | rfl <;> omega
    exact plus_mid g d (A := pad F n) (Bs := pad G mm) (D := pad G mm) (S := (z.natAbs : Int) + (y.natAbs : Int)) (σ := y.sign * f) hW hU hD hwu hpq hwq hpu hn150 hm150 (Or.inl ⟨rfl, rfl, rfl, rfl, rfl, rfl⟩) (Or.inl rfl) (fun _ _ => rfl) (fun h => absurd rfl h) (by rw [hp1, hp2]) (hbig _ (by omega) (by omega)) hcase.1 hcase.2.1 (fun _ => rfl) (fun h _ => hcase.2.2 h) (fun _ h => absurd rfl h) hs32 (by omega)
  have K1 : ¬ y.sign * f = 0 → z.sign = -(y.sign * f) → (y.natAbs : Int) ≤ (z.natAbs : Int) → AW g mX4_plus (d + 3) 72 [(7, .ref u), (6, .ref w), (5, .int (iZ 0)), (4, .int (iZ 1)), (3, .int (iZ (y.sign * f))), (0, .ref w), (1, .ref u)] [] V sz (WPost g V sz w p L (z + f * y)) := fun h1 h2 h3 => by
    have hcase : (z.natAbs : Int) - (y.natAbs : Int) = ((z + f * y).natAbs : Int) ∧ (z + f * y ≠ 0 → z.sign = (z + f * y).sign) ∧ ¬ z.sign = 0 := by
      have hsc := sg_cases (z + f * y)
      rcases hf with rfl | rfl <;> omega
    exact plus_mid g d (A := pad F n) (Bs := pad G mm) (D := fun j => - pad G mm j) (S := (z.natAbs : Int) - (y.natAbs : Int)) (σ := z.sign) hW hU hD hwu hpq hwq hpu hn150 hm150 (Or.inl ⟨rfl, rfl, rfl, rfl, rfl, rfl⟩) (Or.inr rfl) (fun h => absurd h (by decide)) (fun _ _ => rfl) (by rw [mg_neg (F := pad G mm) (fun _ => rfl), hp1, hp2]; omega) (hbig _ (by omega) (by omega)) hcase.1 hcase.2.1 (fun h => absurd h hcase.2.2) (fun _ _ => rfl) (fun _ h => absurd rfl h) hs32 (by omega)
  have K2 : ¬ y.sign * f = 0 → z.sign = -(y.sign * f) → ¬ (y.natAbs : Int) ≤ (z.natAbs : Int) → AW g mX4_plus (d + 3) 72 [(7, .ref w), (6, .ref u), (5, .int (iZ 1)), (4, .int (iZ 1)), (3, .int (iZ (y.sign * f))), (0, .ref w), (1, .ref u)] [] V sz (WPost g V sz w p L (z + f * y)) := fun h1 h2 h3 => by
    have hcase : (y.natAbs : Int) - (z.natAbs : Int) = ((z + f * y).natAbs : Int) ∧ (z + f * y ≠ 0 → y.sign * f = (z + f * y).sign) ∧ ¬ z.sign = 0 := by
      have hsc := sg_cases (z + f * y)
      rcases hf with rfl | rfl <;> omega
    exact plus_mid g d (A := pad G mm) (Bs := pad F n) (D := fun j => - pad F n j) (S := (y.natAbs : Int) - (z.natAbs : Int)) (σ := y.sign * f) hW hU hD hwu hpq hwq hpu hn150 hm150 (Or.inr ⟨rfl, rfl, rfl, rfl, rfl, rfl⟩) (Or.inr rfl) (fun h => absurd h (by decide)) (fun _ _ => rfl) (by rw [mg_neg (F := pad F n) (fun _ => rfl), hp1, hp2]; omega) (hbig _ (by omega) (by omega)) hcase.1 hcase.2.1 (fun h => absurd h hcase.2.2) (fun _ h => absurd h (by decide)) (fun _ _ => rfl) hs32 (by omega)
  clear hbig hp1 hp2 hz hy
  refine AMet.of rfl rfl (Nat.le_of_ble_eq_true rfl) ?_
  show AW g mX4_plus (d + 3) 0 [(0, .ref w), (1, .ref u), (2, .int (iZ f))] [] V sz _
  refine aw_aload_n dX4_plus_0 (by rfl) (Or.inr ⟨_, rfl⟩) ?_
  refine aw_get fX4_9 dX4_plus_1 (by assumption) (by rfl) ?_
  refine aw_iload_n dX4_plus_4 (by rfl) ?_
  refine aw_imulZ dX4_plus_5 ?_
  refine aw_istore_n dX4_plus_6 (by decide) ?_
  refine aw_iload_n dX4_plus_7 (by rfl) ?_
  refine aw_if_neZ (tgt := 12) dX4_plus_8 (by decide) hth32 (fun hc_8 => ?_) (fun hc_8 => ?_)
  · refine aw_aload_n dX4_plus_12 (by rfl) (Or.inr ⟨_, rfl⟩) ?_
    refine aw_get fX4_9 dX4_plus_13 (by assumption) (by rfl) ?_
    refine aw_iload_n dX4_plus_16 (by rfl) ?_
    refine aw_inegZ dX4_plus_17 ?_
    refine aw_icmp_neZ (tgt := 25) dX4_plus_18 (by decide) hs32 hnth32 (fun hc_18 => ?_) (fun hc_18 => ?_)
    · refine aw_iconstZ dX4_plus_25 ?_
      refine aw_istore dX4_plus_26 (by decide) ?_
      refine aw_iload dX4_plus_28 (by rfl) ?_
      refine aw_if_eqZ (tgt := 45) dX4_plus_30 (by decide) (by omega) (fun _ => ?_) (fun h => absurd (by decide) h)
      refine aw_iconstZ dX4_plus_45 ?_
      refine aw_istore dX4_plus_46 (by decide) ?_
      refine aw_iload dX4_plus_48 (by rfl) ?_
      refine aw_if_eqZ (tgt := 57) dX4_plus_50 (by decide) (by omega) (fun _ => ?_) (fun h => absurd (by decide) h)
      refine aw_aload_n dX4_plus_57 (by rfl) (Or.inr ⟨_, rfl⟩) ?_
      refine aw_astore dX4_plus_58 (by decide) (Or.inr ⟨_, rfl⟩) ?_
      refine aw_iload dX4_plus_60 (by rfl) ?_
      refine aw_if_eqZ (tgt := 69) dX4_plus_62 (by decide) (by omega) (fun _ => ?_) (fun h => absurd (by decide) h)
      refine aw_aload_n dX4_plus_69 (by rfl) (Or.inr ⟨_, rfl⟩) ?_
      refine aw_astore dX4_plus_70 (by decide) (Or.inr ⟨_, rfl⟩) ?_
      refine aw_pk [7, 6, 5, 4, 3, 0, 1] (by rfl) ?_
      first
      | exact K0 hc_8 hc_18
      | exact q0 (K1 hc_8 hc_18 (cmpZ_ge.mp hc_38))
      | exact q0 (K2 hc_8 hc_18 (fun h => hc_38 (cmpZ_ge.mpr h)))
    · refine aw_iconstZ dX4_plus_21 ?_
      refine aw_goto (tgt := 26) dX4_plus_22 (by decide) ?_
      refine aw_istore dX4_plus_26 (by decide) ?_
      refine aw_iload dX4_plus_28 (by rfl) ?_
      refine aw_if_eqZ (tgt := 45) dX4_plus_30 (by decide) (by omega) (fun h => absurd h (by decide)) (fun _ => ?_)
      refine aw_aload_n dX4_plus_33 (by rfl) (Or.inr ⟨_, rfl⟩) ?_
      refine aw_aload_n dX4_plus_34 (by rfl) (Or.inr ⟨_, rfl⟩) ?_
      refine aw_callv vX4_61 dX4_plus_35 (by assumption) (t_compareSize g (d + 2) hWV hUV) (by rfl) (by rfl) (by omega) (Nat.le_of_ble_eq_true rfl) ?_
      rintro _ _ _ _ _ ⟨rfl, rfl, rfl, rfl, rfl⟩ -
      refine aw_if_geZ (tgt := 45) dX4_plus_38 (by decide) (cmpZ_R _ _) (fun hc_38 => ?_) (fun hc_38 => ?_)
      · refine aw_iconstZ dX4_plus_45 ?_
        refine aw_istore dX4_plus_46 (by decide) ?_
        refine aw_iload dX4_plus_48 (by rfl) ?_
        refine aw_if_eqZ (tgt := 57) dX4_plus_50 (by decide) (by omega) (fun _ => ?_) (fun h => absurd (by decide) h)
        refine aw_aload_n dX4_plus_57 (by rfl) (Or.inr ⟨_, rfl⟩) ?_
        refine aw_astore dX4_plus_58 (by decide) (Or.inr ⟨_, rfl⟩) ?_
        refine aw_iload dX4_plus_60 (by rfl) ?_
        refine aw_if_eqZ (tgt := 69) dX4_plus_62 (by decide) (by omega) (fun _ => ?_) (fun h => absurd (by decide) h)
        refine aw_aload_n dX4_plus_69 (by rfl) (Or.inr ⟨_, rfl⟩) ?_
        refine aw_astore dX4_plus_70 (by decide) (Or.inr ⟨_, rfl⟩) ?_
        refine aw_pk [7, 6, 5, 4, 3, 0, 1] (by rfl) ?_
        first
        | exact K0 hc_8 hc_18
        | exact q0 (K1 hc_8 hc_18 (cmpZ_ge.mp hc_38))
        | exact q0 (K2 hc_8 hc_18 (fun h => hc_38 (cmpZ_ge.mpr h)))
      · refine aw_iconstZ dX4_plus_41 ?_
        refine aw_goto (tgt := 46) dX4_plus_42 (by decide) ?_
        refine aw_istore dX4_plus_46 (by decide) ?_
        refine aw_iload dX4_plus_48 (by rfl) ?_
        refine aw_if_eqZ (tgt := 57) dX4_plus_50 (by decide) (by omega) (fun h => absurd h (by decide)) (fun _ => ?_)
        refine aw_aload_n dX4_plus_53 (by rfl) (Or.inr ⟨_, rfl⟩) ?_
        refine aw_goto (tgt := 58) dX4_plus_54 (by decide) ?_
        refine aw_astore dX4_plus_58 (by decide) (Or.inr ⟨_, rfl⟩) ?_
        refine aw_iload dX4_plus_60 (by rfl) ?_
        refine aw_if_eqZ (tgt := 69) dX4_plus_62 (by decide) (by omega) (fun h => absurd h (by decide)) (fun _ => ?_)
        refine aw_aload_n dX4_plus_65 (by rfl) (Or.inr ⟨_, rfl⟩) ?_
        refine aw_goto (tgt := 70) dX4_plus_66 (by decide) ?_
        refine aw_astore dX4_plus_70 (by decide) (Or.inr ⟨_, rfl⟩) ?_
        refine aw_pk [7, 6, 5, 4, 3, 0, 1] (by rfl) ?_
        first
        | exact K0 hc_8 hc_18
        | exact q0 (K1 hc_8 hc_18 (cmpZ_ge.mp hc_38))
        | exact q0 (K2 hc_8 hc_18 (fun h => hc_38 (cmpZ_ge.mpr h)))
  · refine aw_ret dX4_plus_11 rfl ?_
    have hy0 : y = 0 := hy_of hc_8
    subst hy0
    rw [Int.mul_zero, Int.add_zero]
    exact ⟨rfl, p, L, hWV, by omega, by omega, Or.inl rfl, Fr.rf, hD⟩

/-! ===== the class: sharedByCofactors ===== -/
/-- a minor of a square table, by row and column that are left out -/
abbrev mnr (S : TSt) (x i j : Nat) : Int := det (S.c x - 1) (fun a k => TM (S.N x) (sk i a) (sk j k))
theorem mnr_R {S : TSt} {x i j : Nat} (hc : S.c x ≤ 5) (hN : ∀ k, k < 25 → -1000 ≤ S.N x k ∧ S.N x k ≤ 1000) (hi : i < S.c x) (hj : j < S.c x) : ab (mnr S x i j) ≤ 24000000000000 := by
  have h1 := det_ab (b := 1000) (by omega) (n := S.c x - 1) (A := fun a k => TM (S.N x) (sk i a) (sk j k)) (fun a k ha hk => by
    have e1 : sk i a < 5 := by unfold sk; split <;> omega
    have e2 : sk j k < 5 := by unfold sk; split <;> omega
    have := hN (5 * sk i a + sk j k) (by omega)
    show ab (S.N x (5 * sk i a + sk j k)) ≤ 1000
    unfold ab; omega)
  have h2 : ∀ n : Fin 5, fac n * 1000 ^ (n : Nat) ≤ 24000000000000 := by decide +kernel
  exact Int.le_trans h1 (h2 ⟨S.c x - 1, by omega⟩)
/-- one step of the division chain: the product halves -/
theorem gc_half {a b : Int} (hb : 0 < b) (hab : b ≤ a) : 0 ≤ a % b ∧ a % b < b ∧ 2 * (b * (a % b)) ≤ a * b := by
  have h1 := Int.emod_nonneg a (show b ≠ 0 by omega)
  have h2 := Int.emod_lt_of_pos a hb
  have h3 := Int.emod_def a b
  have h4 : 1 ≤ a / b := by
    have := Int.le_ediv_of_mul_le hb (show 1 * b ≤ a by omega)
    exact this
  have h5 := Int.mul_le_mul_of_nonneg_left h4 (show 0 ≤ b by omega)
  refine ⟨h1, h2, ?_⟩
  have h6 : 2 * (a % b) ≤ a := by omega
  have h7 := Int.mul_le_mul_of_nonneg_left h6 (show 0 ≤ b by omega)
  rw [Int.mul_comm a b, show 2 * (b * (a % b)) = b * (2 * (a % b)) by rw [← Int.mul_assoc, Int.mul_comm 2 b, Int.mul_assoc]]
  exact h7
theorem gc_dvd {a b d : Int} : (d ∣ b ∧ d ∣ a % b) ↔ (d ∣ a ∧ d ∣ b) := by
  have h3 := Int.emod_def a b
  constructor
  · rintro ⟨h1, h2⟩
    refine ⟨?_, h1⟩
    have : a = a % b + b * (a / b) := by omega
    rw [this]
    exact dvd_ad h2 (dvd_ml h1)
  · rintro ⟨h1, h2⟩
    refine ⟨h2, ?_⟩
    rw [h3, Int.sub_eq_add_neg]
    exact dvd_ad h1 (dvd_ng (dvd_ml h2))
abbrev mX5_sharedByCofactors : MI := (yX5_sharedByCofactors, cX5_sharedByCofactors, 11, (some FieldType.long), noX)
theorem dX5_sharedByCofactors_0 : decode cX5_sharedByCofactors 0 = .ok (.lconst 0, 1) := by decide +kernel
theorem dX5_sharedByCofactors_1 : decode cX5_sharedByCofactors 1 = .ok (.lstore_n 2, 1) := by decide +kernel
theorem dX5_sharedByCofactors_2 : decode cX5_sharedByCofactors 2 = .ok (.iconst 0, 1) := by decide +kernel
theorem dX5_sharedByCofactors_3 : decode cX5_sharedByCofactors 3 = .ok (.istore 4, 2) := by decide +kernel
theorem dX5_sharedByCofactors_5 : decode cX5_sharedByCofactors 5 = .ok (.iload 4, 2) := by decide +kernel
theorem dX5_sharedByCofactors_7 : decode cX5_sharedByCofactors 7 = .ok (.aload_n 1, 1) := by decide +kernel
theorem dX5_sharedByCofactors_8 : decode cX5_sharedByCofactors 8 = .ok (.getfield 96, 3) := by decide +kernel
theorem dX5_sharedByCofactors_11 : decode cX5_sharedByCofactors 11 = .ok (.if_icmp .ge 78, 3) := by decide +kernel
theorem dX5_sharedByCofactors_14 : decode cX5_sharedByCofactors 14 = .ok (.iconst 0, 1) := by decide +kernel
theorem dX5_sharedByCofactors_15 : decode cX5_sharedByCofactors 15 = .ok (.istore 5, 2) := by decide +kernel
theorem dX5_sharedByCofactors_17 : decode cX5_sharedByCofactors 17 = .ok (.iload 5, 2) := by decide +kernel
theorem dX5_sharedByCofactors_19 : decode cX5_sharedByCofactors 19 = .ok (.aload_n 1, 1) := by decide +kernel
theorem dX5_sharedByCofactors_20 : decode cX5_sharedByCofactors 20 = .ok (.getfield 79, 3) := by decide +kernel
theorem dX5_sharedByCofactors_23 : decode cX5_sharedByCofactors 23 = .ok (.if_icmp .ge 60, 3) := by decide +kernel
theorem dX5_sharedByCofactors_26 : decode cX5_sharedByCofactors 26 = .ok (.aload_n 0, 1) := by decide +kernel
theorem dX5_sharedByCofactors_27 : decode cX5_sharedByCofactors 27 = .ok (.aload_n 1, 1) := by decide +kernel
theorem dX5_sharedByCofactors_28 : decode cX5_sharedByCofactors 28 = .ok (.iload 4, 2) := by decide +kernel
theorem dX5_sharedByCofactors_30 : decode cX5_sharedByCofactors 30 = .ok (.iload 5, 2) := by decide +kernel
theorem dX5_sharedByCofactors_32 : decode cX5_sharedByCofactors 32 = .ok (.invokevirtual 155, 3) := by decide +kernel
theorem dX5_sharedByCofactors_35 : decode cX5_sharedByCofactors 35 = .ok (.invokestatic 224, 3) := by decide +kernel
theorem dX5_sharedByCofactors_38 : decode cX5_sharedByCofactors 38 = .ok (.lstore 6, 2) := by decide +kernel
theorem dX5_sharedByCofactors_40 : decode cX5_sharedByCofactors 40 = .ok (.iconst 0, 1) := by decide +kernel
theorem dX5_sharedByCofactors_41 : decode cX5_sharedByCofactors 41 = .ok (.istore 8, 2) := by decide +kernel
theorem dX5_sharedByCofactors_43 : decode cX5_sharedByCofactors 43 = .ok (.iload 8, 2) := by decide +kernel
theorem dX5_sharedByCofactors_45 : decode cX5_sharedByCofactors 45 = .ok (.ldc_w 256, 3) := by decide +kernel
theorem dX5_sharedByCofactors_48 : decode cX5_sharedByCofactors 48 = .ok (.if_icmp .ge 29, 3) := by decide +kernel
theorem dX5_sharedByCofactors_51 : decode cX5_sharedByCofactors 51 = .ok (.lload 6, 2) := by decide +kernel
theorem dX5_sharedByCofactors_53 : decode cX5_sharedByCofactors 53 = .ok (.lconst 0, 1) := by decide +kernel
theorem dX5_sharedByCofactors_54 : decode cX5_sharedByCofactors 54 = .ok (.lcmp, 1) := by decide +kernel
theorem dX5_sharedByCofactors_55 : decode cX5_sharedByCofactors 55 = .ok (.ifCond .eq 22, 3) := by decide +kernel
theorem dX5_sharedByCofactors_58 : decode cX5_sharedByCofactors 58 = .ok (.lload_n 2, 1) := by decide +kernel
theorem dX5_sharedByCofactors_59 : decode cX5_sharedByCofactors 59 = .ok (.lload 6, 2) := by decide +kernel
theorem dX5_sharedByCofactors_61 : decode cX5_sharedByCofactors 61 = .ok (.lrem, 1) := by decide +kernel
theorem dX5_sharedByCofactors_62 : decode cX5_sharedByCofactors 62 = .ok (.lstore 9, 2) := by decide +kernel
theorem dX5_sharedByCofactors_64 : decode cX5_sharedByCofactors 64 = .ok (.lload 6, 2) := by decide +kernel
theorem dX5_sharedByCofactors_66 : decode cX5_sharedByCofactors 66 = .ok (.lstore_n 2, 1) := by decide +kernel
theorem dX5_sharedByCofactors_67 : decode cX5_sharedByCofactors 67 = .ok (.lload 9, 2) := by decide +kernel
theorem dX5_sharedByCofactors_69 : decode cX5_sharedByCofactors 69 = .ok (.lstore 6, 2) := by decide +kernel
theorem dX5_sharedByCofactors_71 : decode cX5_sharedByCofactors 71 = .ok (.iinc 8 1, 3) := by decide +kernel
theorem dX5_sharedByCofactors_74 : decode cX5_sharedByCofactors 74 = .ok (.goto (-31), 3) := by decide +kernel
theorem dX5_sharedByCofactors_77 : decode cX5_sharedByCofactors 77 = .ok (.iinc 5 1, 3) := by decide +kernel
theorem dX5_sharedByCofactors_80 : decode cX5_sharedByCofactors 80 = .ok (.goto (-63), 3) := by decide +kernel
theorem dX5_sharedByCofactors_83 : decode cX5_sharedByCofactors 83 = .ok (.iinc 4 1, 3) := by decide +kernel
theorem dX5_sharedByCofactors_86 : decode cX5_sharedByCofactors 86 = .ok (.goto (-81), 3) := by decide +kernel
theorem dX5_sharedByCofactors_89 : decode cX5_sharedByCofactors 89 = .ok (.lload_n 2, 1) := by decide +kernel
theorem dX5_sharedByCofactors_90 : decode cX5_sharedByCofactors 90 = .ok (.lreturn, 1) := by decide +kernel
theorem sbc_g (g : GX) (d : Nat) {b x i j : Nat} {V : AH} {sz : Nat} {Q : AQ} {DD : Int → Prop} (hKK : ∀ {sh : Int}, 0 ≤ sh → (∀ d : Int, DD d ↔ d ∣ sh) → sh ≤ 24000000000000 → AW g mX5_sharedByCofactors (d + 2) 77 [(2, .long (jZ sh)), (4, .int (iZ (i : Int))), (5, .int (iZ (j : Int))), (0, .ref b), (1, .ref (b + 647 + 3 * x))] [] V sz Q) : ∀ (f stp : Nat) (sh re : Int), stp + f < 1000000 → (0 ≤ sh ∧ sh ≤ 24000000000000) → (0 ≤ re ∧ re ≤ 24000000000000) → ((re ≤ sh ∧ sh * re < 2 ^ f) ∨ (sh < re ∧ 1 ≤ f ∧ sh * re < 2 ^ (f - 1))) → (∀ d : Int, DD d ↔ (d ∣ sh ∧ d ∣ re)) → AW g mX5_sharedByCofactors (d + 2) 43 [(2, .long (jZ sh)), (6, .long (jZ re)), (8, .int (iZ (stp : Int))), (4, .int (iZ (i : Int))), (5, .int (iZ (j : Int))), (0, .ref b), (1, .ref (b + 647 + 3 * x))] [] V sz Q
  | 0, stp, sh, re, hst, hsh, hre, hpr, hdv => by
    have hz0 : re = 0 := by
      rcases hpr with ⟨h1, h2⟩ | ⟨-, h2, -⟩
      · rw [Int.pow_zero] at h2
        by_cases e : re = 0
        · exact e
        · have := Int.mul_le_mul (show 1 ≤ sh by omega) (show 1 ≤ re by omega) (by omega) (by omega)
          omega
      · exact absurd h2 (by omega)
    refine aw_iload dX5_sharedByCofactors_43 (by rfl) ?_
    refine aw_ldcwZ (z := 1000000) qX5_256 dX5_sharedByCofactors_45 (by decide) ?_
    refine aw_icmp_geZ (tgt := 77) dX5_sharedByCofactors_48 (by decide) (by omega) (by omega) (fun hc_48 => ?_) (fun hc_48 => ?_)
    · exact absurd hc_48 (by omega)
    · refine aw_lload dX5_sharedByCofactors_51 (by rfl) ?_
      refine aw_lconstZ (z := 0) dX5_sharedByCofactors_53 (by decide) ?_
      refine aw_lcmpZ dX5_sharedByCofactors_54 (by omega) (by omega) ?_
      refine aw_if_eqZ (tgt := 77) dX5_sharedByCofactors_55 (by decide) (by unfold cmpZ; split <;> (try split) <;> omega) (fun hc_55 => ?_) (fun hc_55 => ?_)
      · have hz := cmpZ_eq.mp hc_55
        refine aw_pk [2, 4, 5, 0, 1] (by rfl) ?_
        exact hKK hsh.1 (fun d => (hdv d).trans ⟨fun z => z.1, fun z => ⟨z, by rw [hz]; exact dvd_z d⟩⟩) hsh.2
      · have hz : ¬ re = 0 := fun z => hc_55 (cmpZ_eq.mpr z)
        exact absurd hz (by omega)
  | f + 1, stp, sh, re, hst, hsh, hre, hpr, hdv => by
    have IH := fun stp sh re hs => @sbc_g g d b x i j V sz Q DD hKK f stp sh re hs
    refine aw_iload dX5_sharedByCofactors_43 (by rfl) ?_
    refine aw_ldcwZ (z := 1000000) qX5_256 dX5_sharedByCofactors_45 (by decide) ?_
    refine aw_icmp_geZ (tgt := 77) dX5_sharedByCofactors_48 (by decide) (by omega) (by omega) (fun hc_48 => ?_) (fun hc_48 => ?_)
    · exact absurd hc_48 (by omega)
    · refine aw_lload dX5_sharedByCofactors_51 (by rfl) ?_
      refine aw_lconstZ (z := 0) dX5_sharedByCofactors_53 (by decide) ?_
      refine aw_lcmpZ dX5_sharedByCofactors_54 (by omega) (by omega) ?_
      refine aw_if_eqZ (tgt := 77) dX5_sharedByCofactors_55 (by decide) (by unfold cmpZ; split <;> (try split) <;> omega) (fun hc_55 => ?_) (fun hc_55 => ?_)
      · have hz := cmpZ_eq.mp hc_55
        refine aw_pk [2, 4, 5, 0, 1] (by rfl) ?_
        exact hKK hsh.1 (fun d => (hdv d).trans ⟨fun z => z.1, fun z => ⟨z, by rw [hz]; exact dvd_z d⟩⟩) hsh.2
      · have hz : ¬ re = 0 := fun z => hc_55 (cmpZ_eq.mpr z)
        have hm := Int.emod_nonneg sh (show re ≠ 0 by omega)
        have hm2 := Int.emod_lt_of_pos sh (show 0 < re by omega)
        refine aw_lload_n dX5_sharedByCofactors_58 (by rfl) ?_
        refine aw_lload dX5_sharedByCofactors_59 (by rfl) ?_
        refine aw_lremZ dX5_sharedByCofactors_61 (by omega) (by omega) (by omega) (by omega) ?_
        rw [Int.tmod_eq_emod_of_nonneg hsh.1]
        refine aw_lstore dX5_sharedByCofactors_62 (by decide) ?_
        refine aw_lload dX5_sharedByCofactors_64 (by rfl) ?_
        refine aw_lstore_n dX5_sharedByCofactors_66 (by decide) ?_
        refine aw_lload dX5_sharedByCofactors_67 (by rfl) ?_
        refine aw_lstore dX5_sharedByCofactors_69 (by decide) ?_
        refine aw_iincZ dX5_sharedByCofactors_71 (by rfl) (by decide) ?_
        refine aw_goto (tgt := 43) dX5_sharedByCofactors_74 (by decide) ?_
        rw [show ((stp : Int) + 1) = ((stp + 1 : Nat) : Int) by omega]
        refine aw_pk [2, 6, 8, 4, 5, 0, 1] (by rfl) ?_
        refine IH (stp + 1) re (sh % re) (by omega) ⟨by omega, by omega⟩ ⟨hm, by omega⟩ ?_ (fun d => (hdv d).trans gc_dvd.symm)
        rcases hpr with ⟨h1, h2⟩ | ⟨h1, -, h2⟩
        · obtain ⟨-, -, h3⟩ := gc_half (a := sh) (b := re) (by omega) h1
          rw [Int.pow_succ] at h2
          exact Or.inl ⟨by omega, by omega⟩
        · rw [Int.emod_eq_of_lt hsh.1 h1, Int.mul_comm]
          exact Or.inl ⟨by omega, h2⟩
set_option maxRecDepth 20000 in
theorem sbc_j (g : GX) (d : Nat) {b x i : Nat} {X : Nat → Prop} {V0 : AH} {sz : Nat} {Z : Nat → Int} {S : TSt} {A : ASt} {Q : AQ} (hx : x < 12) (hr : 0 < S.r x) (hsq : S.r x = S.c x) (hi : i < S.c x) (hKK : ∀ {V : AH} {sh : Int}, CX g b X V Z S A → (∀ a, a ≠ b + 646 → V a = V0 a) → (0 ≤ sh ∧ sh ≤ 24000000000000) → (∀ d : Int, (∀ a e, a < S.c x → e < S.c x → (a < i ∨ (a = i ∧ e < S.c x)) → d ∣ mnr S x a e) ↔ d ∣ sh) → AW g mX5_sharedByCofactors (d + 2) 83 [(4, .int (iZ (i : Int))), (2, .long (jZ sh)), (0, .ref b), (1, .ref (b + 647 + 3 * x))] [] V sz Q) : ∀ (f j : Nat), j + f = S.c x → ∀ {V : AH} {sh : Int}, CX g b X V Z S A → (∀ a, a ≠ b + 646 → V a = V0 a) → (0 ≤ sh ∧ sh ≤ 24000000000000) → (∀ d : Int, (∀ a e, a < S.c x → e < S.c x → (a < i ∨ (a = i ∧ e < j)) → d ∣ mnr S x a e) ↔ d ∣ sh) → AW g mX5_sharedByCofactors (d + 2) 17 [(5, .int (iZ (j : Int))), (4, .int (iZ (i : Int))), (2, .long (jZ sh)), (0, .ref b), (1, .ref (b + 647 + 3 * x))] [] V sz Q
  | 0, j, hf, V, sh, h, hV, hsh, hdv => by
    obtain rfl : j = S.c x := by omega
    obtain ⟨⟨hb, -⟩, hTb, hOk, -⟩ := id h
    obtain ⟨q1, q3, -, qx, -⟩ := hOk x hx
    obtain ⟨x1, x2, x3⟩ := id (hTb x hx)
    refine aw_iload dX5_sharedByCofactors_17 (by rfl) ?_
    refine aw_aload_n dX5_sharedByCofactors_19 (by rfl) (Or.inr ⟨_, rfl⟩) ?_
    refine aw_get fX5_79 dX5_sharedByCofactors_20 x1 (by rfl) ?_
    refine aw_icmp_geZ (tgt := 83) dX5_sharedByCofactors_23 (by decide) (by omega) (by omega) (fun hc_23 => ?_) (fun hc_23 => ?_)
    · refine aw_pk [4, 2, 0, 1] (by rfl) ?_
      exact hKK h hV hsh hdv
    · exact absurd hc_23 (by omega)
  | f + 1, j, hf, V, sh, h, hV, hsh, hdv => by
    have IH := fun j hj => @sbc_j g d b x i X V0 sz Z S A Q hx hr hsq hi hKK f j hj
    obtain ⟨⟨hb, -⟩, hTb, hOk, -⟩ := id h
    obtain ⟨q1, q3, -, qx, -⟩ := hOk x hx
    obtain ⟨x1, x2, x3⟩ := id (hTb x hx)
    refine aw_iload dX5_sharedByCofactors_17 (by rfl) ?_
    refine aw_aload_n dX5_sharedByCofactors_19 (by rfl) (Or.inr ⟨_, rfl⟩) ?_
    refine aw_get fX5_79 dX5_sharedByCofactors_20 x1 (by rfl) ?_
    refine aw_icmp_geZ (tgt := 83) dX5_sharedByCofactors_23 (by decide) (by omega) (by omega) (fun hc_23 => ?_) (fun hc_23 => ?_)
    · exact absurd hc_23 (by omega)
    · refine aw_aload_n dX5_sharedByCofactors_26 (by rfl) (Or.inr ⟨_, rfl⟩) ?_
      refine aw_aload_n dX5_sharedByCofactors_27 (by rfl) (Or.inr ⟨_, rfl⟩) ?_
      refine aw_iload dX5_sharedByCofactors_28 (by rfl) ?_
      refine aw_iload dX5_sharedByCofactors_30 (by rfl) ?_
      refine aw_callv vX5_155 dX5_sharedByCofactors_32 hb (t_minorW d h hx hr (r := i) (c := j) (by omega) (by omega)) (by rfl) (by rfl) (by omega) (Nat.le_of_ble_eq_true rfl) ?_
      rintro _ _ _ _ _ ⟨F1, rfl, rfl, rfl, rfl, rfl⟩ -
      refine q0 ?_
      have hmr := mnr_R q3 qx (i := i) (j := j) (by omega) (by omega)
      unfold ab at hmr
      have h1 := h.mw (F := F1)
      refine aw_absl sX5_224.2.2 dX5_sharedByCofactors_35 (show R64 (mnr S x i j) from (by omega)) (by omega) (Nat.le_of_ble_eq_true rfl) ?_
      refine aw_lstore dX5_sharedByCofactors_38 (by decide) ?_
      refine aw_iconstZ dX5_sharedByCofactors_40 ?_
      refine aw_istore dX5_sharedByCofactors_41 (by decide) ?_
      refine aw_pk [2, 6, 8, 4, 5, 0, 1] (by rfl) ?_
      have hpr0 : sh * ((mnr S x i j).natAbs : Int) < 2 ^ 90 := by
        have := Int.mul_le_mul hsh.2 hmr (by omega) (by omega)
        have e : (24000000000000 : Int) * 24000000000000 < 2 ^ 90 := by decide +kernel
        omega
      refine sbc_g g d (DD := fun d => d ∣ sh ∧ d ∣ mnr S x i j) (fun {s2} hs0 hs1 hs2 => ?_) 91 0 sh ((mnr S x i j).natAbs : Int) (by omega) hsh ⟨by omega, hmr⟩ (by
        by_cases e : ((mnr S x i j).natAbs : Int) ≤ sh
        · refine Or.inl ⟨e, ?_⟩
          rw [show (91 : Nat) = 90 + 1 from rfl, Int.pow_succ]
          have : (0 : Int) < 2 ^ 90 := by decide +kernel
          omega
        · exact Or.inr ⟨by omega, by omega, hpr0⟩) (fun d => by rw [Int.dvd_natAbs])
      refine aw_iincZ dX5_sharedByCofactors_77 (by rfl) (by decide) ?_
      refine aw_goto (tgt := 17) dX5_sharedByCofactors_80 (by decide) ?_
      rw [show ((j : Int) + 1) = ((j + 1 : Nat) : Int) by omega]
      refine aw_pk [5, 4, 2, 0, 1] (by rfl) ?_
      refine IH (j + 1) (by omega) h1 (fun a ha => (AHu_ne ha).trans (hV a ha)) ⟨hs0, hs2⟩ (fun d => ?_)
      rw [← hs1 d, ← hdv d]
      constructor
      · intro z
        exact ⟨fun a e ha he hp => z a e ha he (by omega), z i j (by omega) (by omega) (by omega)⟩
      · rintro ⟨z1, z2⟩ a e ha he hp
        by_cases q : a = i ∧ e = j
        · rw [q.1, q.2]; exact z2
        · exact z1 a e ha he (by omega)
set_option maxRecDepth 20000 in
theorem sbc_i (g : GX) (d : Nat) {b x : Nat} {X : Nat → Prop} {V0 : AH} {sz : Nat} {Z : Nat → Int} {S : TSt} {A : ASt} {Q : AQ} (hx : x < 12) (hr : 0 < S.r x) (hsq : S.r x = S.c x) (hQ : ∀ {V : AH} {sh : Int}, CX g b X V Z S A → (∀ a, a ≠ b + 646 → V a = V0 a) → (0 ≤ sh ∧ sh ≤ 24000000000000) → (∀ d : Int, d ∣ sh ↔ ∀ a e, a < S.c x → e < S.c x → d ∣ mnr S x a e) → Q (some (.long (jZ sh))) V sz 0 0) : ∀ (f i : Nat), i + f = S.c x → ∀ {V : AH} {sh : Int}, CX g b X V Z S A → (∀ a, a ≠ b + 646 → V a = V0 a) → (0 ≤ sh ∧ sh ≤ 24000000000000) → (∀ d : Int, (∀ a e, a < S.c x → e < S.c x → (a < i ∨ (a = i ∧ e < 0)) → d ∣ mnr S x a e) ↔ d ∣ sh) → AW g mX5_sharedByCofactors (d + 2) 5 [(4, .int (iZ (i : Int))), (2, .long (jZ sh)), (0, .ref b), (1, .ref (b + 647 + 3 * x))] [] V sz Q
  | 0, i, hf, V, sh, h, hV, hsh, hdv => by
    obtain rfl : i = S.c x := by omega
    obtain ⟨⟨hb, -⟩, hTb, hOk, -⟩ := id h
    obtain ⟨q1, q3, -, qx, -⟩ := hOk x hx
    obtain ⟨x1, x2, x3⟩ := id (hTb x hx)
    refine aw_iload dX5_sharedByCofactors_5 (by rfl) ?_
    refine aw_aload_n dX5_sharedByCofactors_7 (by rfl) (Or.inr ⟨_, rfl⟩) ?_
    refine aw_get fX5_96 dX5_sharedByCofactors_8 x1 (by rfl) ?_
    refine aw_icmp_geZ (tgt := 89) dX5_sharedByCofactors_11 (by decide) (by omega) (by omega) (fun hc_11 => ?_) (fun hc_11 => ?_)
    · refine aw_lload_n dX5_sharedByCofactors_89 (by rfl) ?_
      refine aw_lret dX5_sharedByCofactors_90 rfl ?_
      exact hQ h hV hsh (fun d => (hdv d).symm.trans ⟨fun z a e ha he => z a e ha he (Or.inl (by omega)), fun z a e ha he _ => z a e ha he⟩)
    · exact absurd hc_11 (by omega)
  | f + 1, i, hf, V, sh, h, hV, hsh, hdv => by
    have IH := fun i hi => @sbc_i g d b x X V0 sz Z S A Q hx hr hsq hQ f i hi
    obtain ⟨⟨hb, -⟩, hTb, hOk, -⟩ := id h
    obtain ⟨q1, q3, -, qx, -⟩ := hOk x hx
    obtain ⟨x1, x2, x3⟩ := id (hTb x hx)
    refine aw_iload dX5_sharedByCofactors_5 (by rfl) ?_
    refine aw_aload_n dX5_sharedByCofactors_7 (by rfl) (Or.inr ⟨_, rfl⟩) ?_
    refine aw_get fX5_96 dX5_sharedByCofactors_8 x1 (by rfl) ?_
    refine aw_icmp_geZ (tgt := 89) dX5_sharedByCofactors_11 (by decide) (by omega) (by omega) (fun hc_11 => ?_) (fun hc_11 => ?_)
    · exact absurd hc_11 (by omega)
    · refine aw_iconstZ dX5_sharedByCofactors_14 ?_
      refine aw_istore dX5_sharedByCofactors_15 (by decide) ?_
      refine aw_pk [5, 4, 2, 0, 1] (by rfl) ?_
      refine sbc_j g d hx hr hsq (i := i) (V0 := V0) (by omega) (fun {V1 s1} h1 hV1 hs1 hd1 => ?_) (S.c x) 0 (by omega) h hV hsh hdv
      refine aw_iincZ dX5_sharedByCofactors_83 (by rfl) (by decide) ?_
      refine aw_goto (tgt := 5) dX5_sharedByCofactors_86 (by decide) ?_
      rw [show ((i : Int) + 1) = ((i + 1 : Nat) : Int) by omega]
      refine aw_pk [4, 2, 0, 1] (by rfl) ?_
      exact IH (i + 1) (by omega) h1 hV1 hs1 (fun d => Iff.trans ⟨fun z a e ha he hp => z a e ha he (by omega), fun z a e ha he hp => z a e ha he (by omega)⟩ (hd1 d))
theorem t_shared (g : GX) (d : Nat) {b x : Nat} {X : Nat → Prop} {V : AH} {sz : Nat} {Z : Nat → Int} {S : TSt} {A : ASt} (h : CX g b X V Z S A) (hx : x < 12) (hr : 0 < S.r x) (hsq : S.r x = S.c x) : AMet g mX5_sharedByCofactors (d + 2) [.ref b, .ref (b + 647 + 3 * x)] V sz (fun r V' sz' mc ms => ∃ (F : Nat → Int) (gg : Int), some (.long (jZ gg)) = r ∧ (0 ≤ gg ∧ gg ≤ 24000000000000) ∧ (∀ d : Int, d ∣ gg ↔ ∀ i j, i < S.c x → j < S.c x → d ∣ mnr S x i j) ∧ V' = AHu V (b + 646) (aJz g 32 F) ∧ sz' = sz ∧ mc = 0 ∧ ms = 0) := by
  refine AMet.of rfl rfl (Nat.le_of_ble_eq_true rfl) ?_
  show AW g mX5_sharedByCofactors (d + 2) 0 [(0, .ref b), (1, .ref (b + 647 + 3 * x))] [] V sz _
  refine aw_lconstZ (z := 0) dX5_sharedByCofactors_0 (by decide) ?_
  refine aw_lstore_n dX5_sharedByCofactors_1 (by decide) ?_
  refine aw_iconstZ dX5_sharedByCofactors_2 ?_
  refine aw_istore dX5_sharedByCofactors_3 (by decide) ?_
  refine aw_pk [4, 2, 0, 1] (by rfl) ?_
  refine sbc_i g d hx hr hsq (V0 := V) (fun {V1 s1} h1 hV1 hs1 hd1 => ?_) (S.c x) 0 (by omega) h (fun _ _ => rfl) ⟨by omega, by omega⟩ (fun d => ⟨fun _ => dvd_z d, fun _ a e _ _ hp => absurd hp (by omega)⟩)
  obtain ⟨F1, hF1⟩ := h1.2.2.2.2.2.2.2.2.2.2.2.2
  exact ⟨F1, s1, rfl, hs1, hd1, ahu_of hV1 hF1, rfl, rfl, rfl⟩

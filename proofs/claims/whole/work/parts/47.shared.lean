/-! ===== Desk: findShared, letDivide ===== -/
def EU (T : Int) (x : Nat) (a b : Int) : Prop := ab a ≤ T ∧ ab b ≤ T ∧ (x = 9302 ∨ (x = 9301 ∧ 0 ≤ b) ∨ (x ≤ 9300 ∧ 0 ≤ b ∧ b ≤ a ∧ a * b < 2 ^ x))
theorem EU.step {T : Int} {x : Nat} {a b : Int} (hT : Sm (2 * T)) (h : EU T x a b) (hb : b ≠ 0) : 0 < x ∧ EU T (x - 1) b (a % b) ∧ ab (a / b) ≤ T ∧ ab (a / b * b) ≤ 2 * T := by
  obtain ⟨h1, h2, h3⟩ := h
  have hm := Int.mul_ediv_add_emod a b
  have hr0 := Int.emod_nonneg a hb
  have hr2 : a % b < ab b := Int.emod_lt a hb
  have hq : ab (a / b) ≤ T := by
    have h5 : ab (a / b) ≤ ab a := by
      unfold ab
      have := Int.natAbs_ediv_le_natAbs a b
      omega
    omega
  have hqb : ab (a / b * b) ≤ 2 * T := by
    have e : a / b * b = a - a % b := by rw [Int.mul_comm]; omega
    rw [e]
    have := ab_sub a (a % b)
    rw [ab_pos hr0] at this
    omega
  have hrT : ab (a % b) ≤ T := by rw [ab_pos hr0]; omega
  refine ⟨?_, ⟨h2, hrT, ?_⟩, hq, hqb⟩
  · rcases h3 with h4 | ⟨h4, -⟩ | ⟨h4, h5, h6, h7⟩
    · omega
    · omega
    · rcases Nat.eq_zero_or_pos x with h8 | h8
      · rw [h8, Int.pow_zero] at h7
        have : 1 * 1 ≤ a * b := Int.mul_le_mul (by omega) (by omega) (by omega) (by omega)
        omega
      · exact h8
  · rcases h3 with h4 | ⟨h4, h5⟩ | ⟨h4, h5, h6, h7⟩
    · exact Or.inr (Or.inl ⟨by omega, hr0⟩)
    · refine Or.inr (Or.inr ⟨by omega, hr0, ?_, ?_⟩)
      · rw [ab_pos h5] at hr2; omega
      · rw [h4]
        have hST : Sm T := Sm.of hT (by rw [ab_pos (by have := ab0 a; omega)]; have := ab0 a; omega)
        have hTp : ab T = T := ab_pos (by have := ab0 a; omega)
        rw [ab_pos h5] at h2
        exact sm_2 hST h5 hr0 (by omega) (by rw [ab_pos hr0] at hrT; omega)
    · rw [ab_pos h5] at hr2
      have h9 : 0 < x := by
        rcases Nat.eq_zero_or_pos x with h8 | h8
        · rw [h8, Int.pow_zero] at h7
          have : 1 * 1 ≤ a * b := Int.mul_le_mul (by omega) (by omega) (by omega) (by omega)
          omega
        · exact h8
      refine Or.inr (Or.inr ⟨by omega, hr0, by omega, ?_⟩)
      have hpw : (2 : Int) ^ x = 2 ^ (x - 1) * 2 := by rw [← Int.pow_succ]; congr 1; omega
      rcases Int.lt_or_le 0 (a % b) with h10 | h10
      · rcases Int.lt_or_le b a with h11 | h11
        · have := half_mul (x := 0) (show 0 < b by omega) h10 hr2 hm.symm h11
          have e : a * b = b * a := Int.mul_comm _ _
          have e3 : a % b * b = b * (a % b) := Int.mul_comm _ _
          omega
        · have e : a = b := by omega
          rw [e, Int.emod_self] at h10
          omega
      · have e : a % b = 0 := by omega
        rw [e, Int.mul_zero]
        exact pw_pos (by omega) _
theorem gcd_stp (a b : Int) : Int.gcd a b = Int.gcd b (a % b) := by
  have hm := Int.emod_add_mul_ediv a b
  have h1 := Int.gcd_add_mul_left_left b (a % b) (a / b)
  rw [hm] at h1
  rw [h1, Int.gcd_comm]
/-- a sign made right: what is left is the number without it -/
theorem WG.abz {g : GX} {ws : List Nat} {SA : Nat → Prop} {V : AH} {sz : Nat} {Z : Nat → Int} {P L : Nat → Nat} {w n : Nat} {F : Nat → Int} (h : WG g ws SA V sz Z P L) (hw : w ∈ ws) (hW : Whl g V w (Z w).sign n (P w) (L w) F) : WStp g ws SA V sz P L (AHu V w (whO ((Z w).sign * (Z w).sign) n (P w))) sz (upF Z w (ab (Z w))) P L 0 0 := by
  rcases Int.lt_or_le (Z w) 0 with h1 | h1
  · have h2 := h.neg hw hW
    have e : (Z w).sign * (Z w).sign = -(Z w).sign := by rw [Int.sign_eq_neg_one_of_neg h1]; rfl
    have e2 : ab (Z w) = - Z w := by unfold ab; omega
    rw [e, e2]; exact h2
  · have e2 : ab (Z w) = Z w := ab_pos h1
    have e : (Z w).sign * (Z w).sign = (Z w).sign := by
      rcases Int.lt_or_eq_of_le h1 with h2 | h2
      · rw [Int.sign_eq_one_of_pos h2]; rfl
      · rw [← h2]; rfl
    rw [e, e2, upF_id, AHu_id hW.1]
    exact WStp.rf h
/-- the Desk's own numbers to work with -/
def DKX (ws : List Nat) (D : DT) : Prop := (US ws D D.gr ∧ US ws D D.sm ∧ US ws D D.fx ∧ US ws D D.px) ∧ D.gr ≠ D.sm ∧ D.gr ≠ D.fx ∧ D.gr ≠ D.px ∧ D.sm ≠ D.fx ∧ D.sm ≠ D.px ∧ D.fx ≠ D.px
def nDk (D : DT) (x : Nat) : Prop := x ≠ D.gr ∧ x ≠ D.sm ∧ x ≠ D.fx ∧ x ≠ D.px
abbrev mX0_findShared : MI := (yX0_findShared, cX0_findShared, 8, none, noX)
theorem dX0_findShared_0 : decode cX0_findShared 0 = .ok (.aload_n 0, 1) := by decide +kernel
theorem dX0_findShared_1 : decode cX0_findShared 1 = .ok (.getfield 24, 3) := by decide +kernel
theorem dX0_findShared_4 : decode cX0_findShared 4 = .ok (.aload_n 1, 1) := by decide +kernel
theorem dX0_findShared_5 : decode cX0_findShared 5 = .ok (.invokevirtual 98, 3) := by decide +kernel
theorem dX0_findShared_8 : decode cX0_findShared 8 = .ok (.aload_n 0, 1) := by decide +kernel
theorem dX0_findShared_9 : decode cX0_findShared 9 = .ok (.getfield 27, 3) := by decide +kernel
theorem dX0_findShared_12 : decode cX0_findShared 12 = .ok (.aload_n 2, 1) := by decide +kernel
theorem dX0_findShared_13 : decode cX0_findShared 13 = .ok (.invokevirtual 98, 3) := by decide +kernel
theorem dX0_findShared_16 : decode cX0_findShared 16 = .ok (.aload_n 0, 1) := by decide +kernel
theorem dX0_findShared_17 : decode cX0_findShared 17 = .ok (.getfield 24, 3) := by decide +kernel
theorem dX0_findShared_20 : decode cX0_findShared 20 = .ok (.astore 4, 2) := by decide +kernel
theorem dX0_findShared_22 : decode cX0_findShared 22 = .ok (.aload_n 0, 1) := by decide +kernel
theorem dX0_findShared_23 : decode cX0_findShared 23 = .ok (.getfield 27, 3) := by decide +kernel
theorem dX0_findShared_26 : decode cX0_findShared 26 = .ok (.astore 5, 2) := by decide +kernel
theorem dX0_findShared_28 : decode cX0_findShared 28 = .ok (.iconst 0, 1) := by decide +kernel
theorem dX0_findShared_29 : decode cX0_findShared 29 = .ok (.istore 6, 2) := by decide +kernel
theorem dX0_findShared_31 : decode cX0_findShared 31 = .ok (.iload 6, 2) := by decide +kernel
theorem dX0_findShared_33 : decode cX0_findShared 33 = .ok (.ldc 102, 2) := by decide +kernel
theorem dX0_findShared_35 : decode cX0_findShared 35 = .ok (.if_icmp .ge 64, 3) := by decide +kernel
theorem dX0_findShared_38 : decode cX0_findShared 38 = .ok (.aload 5, 2) := by decide +kernel
theorem dX0_findShared_40 : decode cX0_findShared 40 = .ok (.getfield 40, 3) := by decide +kernel
theorem dX0_findShared_43 : decode cX0_findShared 43 = .ok (.ifCond .eq 56, 3) := by decide +kernel
theorem dX0_findShared_46 : decode cX0_findShared 46 = .ok (.aload_n 0, 1) := by decide +kernel
theorem dX0_findShared_47 : decode cX0_findShared 47 = .ok (.aload 4, 2) := by decide +kernel
theorem dX0_findShared_49 : decode cX0_findShared 49 = .ok (.aload 5, 2) := by decide +kernel
theorem dX0_findShared_51 : decode cX0_findShared 51 = .ok (.aload_n 0, 1) := by decide +kernel
theorem dX0_findShared_52 : decode cX0_findShared 52 = .ok (.getfield 30, 3) := by decide +kernel
theorem dX0_findShared_55 : decode cX0_findShared 55 = .ok (.invokevirtual 103, 3) := by decide +kernel
theorem dX0_findShared_58 : decode cX0_findShared 58 = .ok (.aload_n 0, 1) := by decide +kernel
theorem dX0_findShared_59 : decode cX0_findShared 59 = .ok (.getfield 33, 3) := by decide +kernel
theorem dX0_findShared_62 : decode cX0_findShared 62 = .ok (.aload_n 0, 1) := by decide +kernel
theorem dX0_findShared_63 : decode cX0_findShared 63 = .ok (.getfield 30, 3) := by decide +kernel
theorem dX0_findShared_66 : decode cX0_findShared 66 = .ok (.aload 5, 2) := by decide +kernel
theorem dX0_findShared_68 : decode cX0_findShared 68 = .ok (.invokevirtual 107, 3) := by decide +kernel
theorem dX0_findShared_71 : decode cX0_findShared 71 = .ok (.aload 4, 2) := by decide +kernel
theorem dX0_findShared_73 : decode cX0_findShared 73 = .ok (.aload_n 0, 1) := by decide +kernel
theorem dX0_findShared_74 : decode cX0_findShared 74 = .ok (.getfield 33, 3) := by decide +kernel
theorem dX0_findShared_77 : decode cX0_findShared 77 = .ok (.iconst (-1), 1) := by decide +kernel
theorem dX0_findShared_78 : decode cX0_findShared 78 = .ok (.invokevirtual 60, 3) := by decide +kernel
theorem dX0_findShared_81 : decode cX0_findShared 81 = .ok (.aload 4, 2) := by decide +kernel
theorem dX0_findShared_83 : decode cX0_findShared 83 = .ok (.astore 7, 2) := by decide +kernel
theorem dX0_findShared_85 : decode cX0_findShared 85 = .ok (.aload 5, 2) := by decide +kernel
theorem dX0_findShared_87 : decode cX0_findShared 87 = .ok (.astore 4, 2) := by decide +kernel
theorem dX0_findShared_89 : decode cX0_findShared 89 = .ok (.aload 7, 2) := by decide +kernel
theorem dX0_findShared_91 : decode cX0_findShared 91 = .ok (.astore 5, 2) := by decide +kernel
theorem dX0_findShared_93 : decode cX0_findShared 93 = .ok (.iinc 6 1, 3) := by decide +kernel
theorem dX0_findShared_96 : decode cX0_findShared 96 = .ok (.goto (-65), 3) := by decide +kernel
theorem dX0_findShared_99 : decode cX0_findShared 99 = .ok (.aload_n 3, 1) := by decide +kernel
theorem dX0_findShared_100 : decode cX0_findShared 100 = .ok (.aload 4, 2) := by decide +kernel
theorem dX0_findShared_102 : decode cX0_findShared 102 = .ok (.invokevirtual 98, 3) := by decide +kernel
theorem dX0_findShared_105 : decode cX0_findShared 105 = .ok (.aload_n 3, 1) := by decide +kernel
theorem dX0_findShared_106 : decode cX0_findShared 106 = .ok (.aload_n 3, 1) := by decide +kernel
theorem dX0_findShared_107 : decode cX0_findShared 107 = .ok (.getfield 40, 3) := by decide +kernel
theorem dX0_findShared_110 : decode cX0_findShared 110 = .ok (.aload_n 3, 1) := by decide +kernel
theorem dX0_findShared_111 : decode cX0_findShared 111 = .ok (.getfield 40, 3) := by decide +kernel
theorem dX0_findShared_114 : decode cX0_findShared 114 = .ok (.imul, 1) := by decide +kernel
theorem dX0_findShared_115 : decode cX0_findShared 115 = .ok (.putfield 40, 3) := by decide +kernel
theorem dX0_findShared_118 : decode cX0_findShared 118 = .ok (.return_, 1) := by decide +kernel
set_option maxRecDepth 20000 in
theorem fs_loop (g : GX) (d : Nat) {ws : List Nat} {SA : Nat → Prop} {D : DT} {sh gg : Nat} {Z0 : Nat → Int} {T : Int} (hX : DKX ws D) (hsh : sh ∈ ws ∧ sh ≠ D.gr ∧ sh ≠ D.sm ∧ sh ≠ D.px) (hT2 : Sm (2 * T)) : ∀ (x s : Nat), s + x ≤ 9302 → ∀ {V : AH} {sz : Nat} {Z : Nat → Int} {P L : Nat → Nat} {u v : Nat}, u ≠ v → (u = D.gr ∧ v = D.sm ∨ u = D.sm ∧ v = D.gr) → WG g ws SA V sz Z P L → DKV ws SA V Z D → EU T x (Z u) (Z v) → Int.gcd (Z u) (Z v) = gg → (∀ x, nDk D x → Z x = Z0 x) → AW g mX0_findShared (d + 5) 31 [(6, .int (iZ s)), (5, .ref v), (4, .ref u), (0, .ref D.dk), (3, .ref sh)] [] V sz (WE g ws SA E0 V sz L (fun r _ Z' => none = r ∧ Z' sh = (gg : Int) ∧ ∀ x, nDk D x → x ≠ sh → Z' x = Z0 x))
  | x, s, hxs, V, sz, Z, P, L, u, v, huv, hc, hw0, hD, hEU, hgc, hoth => by
    have hu : US ws D u := hc.elim (fun q => q.1 ▸ hX.1.1) (fun q => q.1 ▸ hX.1.2.1)
    have hv : US ws D v := hc.elim (fun q => q.2 ▸ hX.1.2.1) (fun q => q.2 ▸ hX.1.1)
    have huf : u ≠ D.fx := hc.elim (fun q => q.1 ▸ hX.2.2.1) (fun q => q.1 ▸ hX.2.2.2.2.1)
    have hup : u ≠ D.px := hc.elim (fun q => q.1 ▸ hX.2.2.2.1) (fun q => q.1 ▸ hX.2.2.2.2.2.1)
    have hvf : v ≠ D.fx := hc.elim (fun q => q.2 ▸ hX.2.2.2.2.1) (fun q => q.2 ▸ hX.2.2.1)
    have hvp : v ≠ D.px := hc.elim (fun q => q.2 ▸ hX.2.2.2.2.2.1) (fun q => q.2 ▸ hX.2.2.2.1)
    have hsu : sh ≠ u := hc.elim (fun q => q.1 ▸ hsh.2.1) (fun q => q.1 ▸ hsh.2.2.1)
    have hdk := hD.2.1
    have END : Z v = 0 → AW g mX0_findShared (d + 5) 99 [(6, .int (iZ s)), (5, .ref v), (4, .ref u), (0, .ref D.dk), (3, .ref sh)] [] V sz (WE g ws SA E0 V sz L (fun r _ Z' => none = r ∧ Z' sh = (gg : Int) ∧ ∀ x, nDk D x → x ≠ sh → Z' x = Z0 x)) := fun hv0 => by
      obtain ⟨ns, Fs, hWs⟩ := hw0.raw hsh.1
      refine aw_aload_n dX0_findShared_99 (by rfl) (Or.inr ⟨_, rfl⟩) ?_
      refine aw_aload dX0_findShared_100 (by rfl) (Or.inr ⟨_, rfl⟩) ?_
      refine aw_callv vX0_98 dX0_findShared_102 hWs.1 (w_copy (d + 1) hw0 hsh.1 hu.1 hsu (Sm.u156 (Sm.of hT2 (by have := hEU.1; have := ab0 (Z u); omega)))) (by rfl) (by rfl) (by omega) (Nat.le_of_ble_eq_true rfl) ?_
      rintro _ V1 sz1 mc1 ms1 ⟨rfl, P1, L1, hs1⟩ -
      refine WE.stp (WSE.of hs1) ?_
      obtain ⟨ns1, Fs1, hWs1⟩ := hs1.1.raw hsh.1
      have hWs1o := hWs1.1
      have hab := hs1.1.abz hsh.1 hWs1
      rw [upF_self] at hab hWs1o
      refine aw_aload_n dX0_findShared_105 (by rfl) (Or.inr ⟨_, rfl⟩) ?_
      refine aw_aload_n dX0_findShared_106 (by rfl) (Or.inr ⟨_, rfl⟩) ?_
      refine aw_get fX0_40 dX0_findShared_107 (by assumption) (by rfl) ?_
      refine aw_aload_n dX0_findShared_110 (by rfl) (Or.inr ⟨_, rfl⟩) ?_
      refine aw_get fX0_40 dX0_findShared_111 (by assumption) (by rfl) ?_
      refine aw_imulZ dX0_findShared_114 ?_
      refine aw_put fX0_40 dX0_findShared_115 (by assumption) (by rfl) (by rfl) (Nat.le_of_ble_eq_true rfl) ?_
      show AW g mX0_findShared (d + 5) _ _ _ (AHu V1 sh (whO ((Z u).sign * (Z u).sign) ns1 (P1 sh))) _ _
      refine WE.stp0 (WSE.of hab) ?_
      refine aw_ret dX0_findShared_118 rfl ?_
      refine WE.ret hab.1 ⟨rfl, ?_, fun x h1 h2 => ?_⟩
      · rw [upF_self, ← hgc, hv0, Int.gcd_zero]; rfl
      · rw [upF_ne _ _ h2, upF_ne _ _ h2]; exact hoth x h1
    obtain ⟨nv, Fv, hWv⟩ := hw0.raw hv.1
    have hWvo := hWv.1
    refine aw_iload dX0_findShared_31 (by rfl) ?_
    refine aw_ldcZ (z := 1000000) qX0_102 dX0_findShared_33 (by decide) ?_
    refine aw_icmp_geZ (tgt := 99) dX0_findShared_35 (by decide) (by omega) (by omega) (fun hc_35 => ?_) (fun hc_35 => ?_)
    · exact absurd hc_35 (by omega)
    · refine aw_aload dX0_findShared_38 (by rfl) (Or.inr ⟨_, rfl⟩) ?_
      refine aw_get fX0_40 dX0_findShared_40 (by assumption) (by rfl) ?_
      refine aw_if_eqZ (tgt := 99) dX0_findShared_43 (by decide) (sgn_R _) (fun hc_43 => ?_) (fun hc_43 => ?_)
      · exact END (sgn0.mp hc_43)
      · have hv0 : Z v ≠ 0 := fun q => hc_43 (sgn0.mpr q)
        have hst := hEU.step hT2 hv0
        obtain ⟨y, rfl⟩ : ∃ y, x = y + 1 := ⟨x - 1, by omega⟩
        have eq2 : upF Z D.fx (Z u / Z v) D.fx * upF Z D.fx (Z u / Z v) v = Z u / Z v * Z v := by rw [upF_self, upF_ne _ _ hvf]
        refine aw_aload_n dX0_findShared_46 (by rfl) (Or.inr ⟨_, rfl⟩) ?_
        refine aw_aload dX0_findShared_47 (by rfl) (Or.inr ⟨_, rfl⟩) ?_
        refine aw_aload dX0_findShared_49 (by rfl) (Or.inr ⟨_, rfl⟩) ?_
        refine aw_aload_n dX0_findShared_51 (by rfl) (Or.inr ⟨_, rfl⟩) ?_
        refine aw_get fX0_30 dX0_findShared_52 (by assumption) (by rfl) ?_
        refine aw_callv vX0_103 dX0_findShared_55 hdk (w_div d hw0 hD hu hv hX.1.2.2.1 (Sm.of hT2 (by have := hEU.1; have := ab0 (Z u); omega))) (by rfl) (by rfl) (by omega) (Nat.le_of_ble_eq_true rfl) ?_
        rintro _ V1 sz1 mc1 ms1 ⟨rfl, P1, L1, hs1⟩ -
        refine WE.stp (WSE.of hs1) ?_
        have hdk1 := (hs1.2.2.1 _ hD.1).trans hdk
        obtain ⟨np, Fp, hWp⟩ := hs1.1.raw hX.1.2.2.2.1
        refine aw_aload_n dX0_findShared_58 (by rfl) (Or.inr ⟨_, rfl⟩) ?_
        refine aw_get fX0_33 dX0_findShared_59 (by assumption) (by rfl) ?_
        refine aw_aload_n dX0_findShared_62 (by rfl) (Or.inr ⟨_, rfl⟩) ?_
        refine aw_get fX0_30 dX0_findShared_63 (by assumption) (by rfl) ?_
        refine aw_aload dX0_findShared_66 (by rfl) (Or.inr ⟨_, rfl⟩) ?_
        refine aw_callv vX0_107 dX0_findShared_68 hWp.1 (w_product d hs1.1 hX.1.2.2.2.1 hX.1.2.2.1.1 hv.1 hX.2.2.2.2.2.2.symm hvp.symm (by rw [upF_self]; exact Sm.of hT2 (by have := hst.2.2.1; have := ab0 (Z u / Z v); omega)) (by rw [upF_ne _ _ hvf]; exact Sm.of hT2 (by have := hEU.2.1; have := ab0 (Z v); omega)) (by rw [eq2]; exact Sm.of hT2 hst.2.2.2)) (by rfl) (by rfl) (by omega) (Nat.le_of_ble_eq_true rfl) ?_
        rintro _ V2 sz2 mc2 ms2 ⟨rfl, P2, L2, hs2⟩ -
        refine WE.stp (WSE.of hs2) ?_
        have hdk2 := (hs2.2.2.1 _ hD.1).trans hdk1
        obtain ⟨nu, Fu, hWu⟩ := hs2.1.raw hu.1
        refine aw_aload dX0_findShared_71 (by rfl) (Or.inr ⟨_, rfl⟩) ?_
        refine aw_aload_n dX0_findShared_73 (by rfl) (Or.inr ⟨_, rfl⟩) ?_
        refine aw_get fX0_33 dX0_findShared_74 (by assumption) (by rfl) ?_
        refine aw_iconstZ dX0_findShared_77 ?_
        refine aw_callv vX0_60 dX0_findShared_78 hWu.1 (w_plus d hs2.1 (f := -1) hu.1 hX.1.2.2.2.1 hup (Or.inr rfl) (by rw [upF_ne _ _ hup, upF_ne _ _ huf]; exact Sm.of hT2 (by have := hEU.1; have := ab0 (Z u); omega)) (by rw [upF_self, eq2]; exact Sm.of hT2 hst.2.2.2)) (by rfl) (by rfl) (by omega) (Nat.le_of_ble_eq_true rfl) ?_
        rintro _ V3 sz3 mc3 ms3 ⟨rfl, P3, L3, hs3⟩ -
        refine WE.stp (WSE.of hs3) ?_
        have hdk3 := (hs3.2.2.1 _ hD.1).trans hdk2
        have hkv : ∀ a, SA a → V3 a = V a := fun a ha => (hs3.2.2.1 a ha).trans ((hs2.2.2.1 a ha).trans (hs1.2.2.1 a ha))
        have hZu : upF (upF (upF Z D.fx (Z u / Z v)) D.px (upF Z D.fx (Z u / Z v) D.fx * upF Z D.fx (Z u / Z v) v)) u (upF (upF Z D.fx (Z u / Z v)) D.px (upF Z D.fx (Z u / Z v) D.fx * upF Z D.fx (Z u / Z v) v) u + -1 * upF (upF Z D.fx (Z u / Z v)) D.px (upF Z D.fx (Z u / Z v) D.fx * upF Z D.fx (Z u / Z v) v) D.px) = upF (upF (upF Z D.fx (Z u / Z v)) D.px (Z u / Z v * Z v)) u (Z u % Z v) := by
          rw [eq2, upF_self, upF_ne _ _ hup, upF_ne _ _ huf]
          congr 1
          have := Int.emod_add_mul_ediv (Z u) (Z v)
          rw [Int.mul_comm] at this
          omega
        rw [hZu] at hs3
        refine aw_aload dX0_findShared_81 (by rfl) (Or.inr ⟨_, rfl⟩) ?_
        refine aw_astore dX0_findShared_83 (by decide) (Or.inr ⟨_, rfl⟩) ?_
        refine aw_aload dX0_findShared_85 (by rfl) (Or.inr ⟨_, rfl⟩) ?_
        refine aw_astore dX0_findShared_87 (by decide) (Or.inr ⟨_, rfl⟩) ?_
        refine aw_aload dX0_findShared_89 (by rfl) (Or.inr ⟨_, rfl⟩) ?_
        refine aw_astore dX0_findShared_91 (by decide) (Or.inr ⟨_, rfl⟩) ?_
        refine aw_iincZ dX0_findShared_93 (by rfl) (by decide) ?_
        refine aw_goto (tgt := 31) dX0_findShared_96 (by decide) ?_
        rw [show ((s : Int) + 1) = ((s + 1 : Nat) : Int) by omega]
        refine aw_pk [6, 5, 4, 0, 3] (by rfl) ?_
        have e1 : upF (upF (upF Z D.fx (Z u / Z v)) D.px (Z u / Z v * Z v)) u (Z u % Z v) u = Z u % Z v := upF_self _ _ _
        have e2 : upF (upF (upF Z D.fx (Z u / Z v)) D.px (Z u / Z v * Z v)) u (Z u % Z v) v = Z v := by rw [upF_ne _ _ huv.symm, upF_ne _ _ hvp, upF_ne _ _ hvf]
        exact fs_loop g d hX hsh hT2 y (s + 1) (by omega) (u := v) (v := u) huv.symm (hc.elim (fun q => Or.inr ⟨q.2, q.1⟩) (fun q => Or.inl ⟨q.2, q.1⟩)) hs3.1 (hD.kept (hkv _ hD.1) (by rw [upF_ne _ _ hu.2.1.symm, upF_ne _ _ hX.1.2.2.2.2.1.symm, upF_ne _ _ hX.1.2.2.1.2.1.symm]) (by rw [upF_ne _ _ hu.2.2.1.symm, upF_ne _ _ hX.1.2.2.2.2.2.1.symm, upF_ne _ _ hX.1.2.2.1.2.2.1.symm]) (by rw [upF_ne _ _ hu.2.2.2.symm, upF_ne _ _ hX.1.2.2.2.2.2.2.symm, upF_ne _ _ hX.1.2.2.1.2.2.2.symm])) (by rw [e1, e2]; exact hst.2.1) (by rw [e1, e2, ← gcd_stp]; exact hgc) (fun z hz => by rw [upF_ne _ _ (hc.elim (fun q => q.1 ▸ hz.1) (fun q => q.1 ▸ hz.2.1)), upF_ne _ _ hz.2.2.2, upF_ne _ _ hz.2.2.1]; exact hoth z hz)
  termination_by x => x
theorem w_findShared (g : GX) (d : Nat) {V : AH} {sz a b : Nat} {Z : Nat → Int} {P L : Nat → Nat} {ws : List Nat} {SA : Nat → Prop} {D : DT} {sh : Nat} {T : Int} (hX : DKX ws D) (hsh : sh ∈ ws ∧ sh ≠ D.gr ∧ sh ≠ D.sm ∧ sh ≠ D.px) (hT2 : Sm (2 * T)) (hw0 : WG g ws SA V sz Z P L) (hD : DKV ws SA V Z D) (ha : a ∈ ws ∧ nDk D a ∧ US ws D a) (hb : b ∈ ws ∧ nDk D b ∧ US ws D b) (hTa : ab (Z a) ≤ T) (hTb : ab (Z b) ≤ T) : AMet g mX0_findShared (d + 5) [.ref D.dk, .ref a, .ref b, .ref sh] V sz (WE g ws SA E0 V sz L (fun r _ Z' => none = r ∧ Z' sh = ((Int.gcd (Z a) (Z b) : Nat) : Int) ∧ ∀ x, nDk D x → x ≠ sh → Z' x = Z x)) := by
  have hdk := hD.2.1
  obtain ⟨n1, F1, hW1⟩ := hw0.raw hX.1.1.1
  refine AMet.of rfl rfl (Nat.le_of_ble_eq_true rfl) ?_
  show AW g mX0_findShared (d + 5) 0 [(0, .ref D.dk), (1, .ref a), (2, .ref b), (3, .ref sh)] [] V sz _
  refine aw_aload_n dX0_findShared_0 (by rfl) (Or.inr ⟨_, rfl⟩) ?_
  refine aw_get fX0_24 dX0_findShared_1 (by assumption) (by rfl) ?_
  refine aw_aload_n dX0_findShared_4 (by rfl) (Or.inr ⟨_, rfl⟩) ?_
  refine aw_callv vX0_98 dX0_findShared_5 hW1.1 (w_copy (d + 1) hw0 hX.1.1.1 ha.1 ha.2.1.1.symm (Sm.u156 (Sm.of hT2 (by have := ab0 (Z a); omega)))) (by rfl) (by rfl) (by omega) (Nat.le_of_ble_eq_true rfl) ?_
  rintro _ V1 sz1 mc1 ms1 ⟨rfl, P1, L1, hs1⟩ -
  refine WE.stp (WSE.of hs1) ?_
  have hdk1 := (hs1.2.2.1 _ hD.1).trans hdk
  obtain ⟨n2, F2, hW2⟩ := hs1.1.raw hX.1.2.1.1
  have eb : upF Z D.gr (Z a) b = Z b := upF_ne _ _ hb.2.1.1
  refine aw_aload_n dX0_findShared_8 (by rfl) (Or.inr ⟨_, rfl⟩) ?_
  refine aw_get fX0_27 dX0_findShared_9 (by assumption) (by rfl) ?_
  refine aw_aload_n dX0_findShared_12 (by rfl) (Or.inr ⟨_, rfl⟩) ?_
  refine aw_callv vX0_98 dX0_findShared_13 hW2.1 (w_copy (d + 1) hs1.1 hX.1.2.1.1 hb.1 hb.2.1.2.1.symm (Sm.u156 (by rw [eb]; exact Sm.of hT2 (by have := ab0 (Z b); omega)))) (by rfl) (by rfl) (by omega) (Nat.le_of_ble_eq_true rfl) ?_
  rintro _ V2 sz2 mc2 ms2 ⟨rfl, P2, L2, hs2⟩ -
  refine WE.stp (WSE.of hs2) ?_
  have hdk2 := (hs2.2.2.1 _ hD.1).trans hdk1
  have eu : upF (upF Z D.gr (Z a)) D.sm (upF Z D.gr (Z a) b) D.gr = Z a := by rw [upF_ne _ _ hX.2.1, upF_self]
  have ev : upF (upF Z D.gr (Z a)) D.sm (upF Z D.gr (Z a) b) D.sm = Z b := by rw [upF_self, eb]
  refine aw_aload_n dX0_findShared_16 (by rfl) (Or.inr ⟨_, rfl⟩) ?_
  refine aw_get fX0_24 dX0_findShared_17 (by assumption) (by rfl) ?_
  refine aw_astore dX0_findShared_20 (by decide) (Or.inr ⟨_, rfl⟩) ?_
  refine aw_aload_n dX0_findShared_22 (by rfl) (Or.inr ⟨_, rfl⟩) ?_
  refine aw_get fX0_27 dX0_findShared_23 (by assumption) (by rfl) ?_
  refine aw_astore dX0_findShared_26 (by decide) (Or.inr ⟨_, rfl⟩) ?_
  refine aw_iconstZ dX0_findShared_28 ?_
  refine aw_istore dX0_findShared_29 (by decide) ?_
  refine aw_pk [6, 5, 4, 0, 3] (by rfl) ?_
  exact fs_loop g d hX hsh hT2 9302 0 (by omega) hX.2.1 (Or.inl ⟨rfl, rfl⟩) hs2.1 (hD.kept ((hs2.2.2.1 _ hD.1).trans (hs1.2.2.1 _ hD.1)) (by rw [upF_ne _ _ hX.1.2.1.2.1.symm, upF_ne _ _ hX.1.1.2.1.symm]) (by rw [upF_ne _ _ hX.1.2.1.2.2.1.symm, upF_ne _ _ hX.1.1.2.2.1.symm]) (by rw [upF_ne _ _ hX.1.2.1.2.2.2.symm, upF_ne _ _ hX.1.1.2.2.2.symm])) (by rw [eu, ev]; exact ⟨hTa, hTb, Or.inl rfl⟩) (by rw [eu, ev]) (fun x hx => by rw [upF_ne _ _ hx.2.1, upF_ne _ _ hx.1])
abbrev mX0_letDivide : MI := (yX0_letDivide, cX0_letDivide, 3, none, noX)
theorem dX0_letDivide_0 : decode cX0_letDivide 0 = .ok (.aload_n 0, 1) := by decide +kernel
theorem dX0_letDivide_1 : decode cX0_letDivide 1 = .ok (.aload_n 1, 1) := by decide +kernel
theorem dX0_letDivide_2 : decode cX0_letDivide 2 = .ok (.aload_n 2, 1) := by decide +kernel
theorem dX0_letDivide_3 : decode cX0_letDivide 3 = .ok (.aload_n 0, 1) := by decide +kernel
theorem dX0_letDivide_4 : decode cX0_letDivide 4 = .ok (.getfield 30, 3) := by decide +kernel
theorem dX0_letDivide_7 : decode cX0_letDivide 7 = .ok (.invokevirtual 110, 3) := by decide +kernel
theorem dX0_letDivide_10 : decode cX0_letDivide 10 = .ok (.aload_n 0, 1) := by decide +kernel
theorem dX0_letDivide_11 : decode cX0_letDivide 11 = .ok (.getfield 30, 3) := by decide +kernel
theorem dX0_letDivide_14 : decode cX0_letDivide 14 = .ok (.aload_n 1, 1) := by decide +kernel
theorem dX0_letDivide_15 : decode cX0_letDivide 15 = .ok (.invokevirtual 52, 3) := by decide +kernel
theorem dX0_letDivide_18 : decode cX0_letDivide 18 = .ok (.ifCond .ne 4, 3) := by decide +kernel
theorem dX0_letDivide_21 : decode cX0_letDivide 21 = .ok (.return_, 1) := by decide +kernel
theorem dX0_letDivide_22 : decode cX0_letDivide 22 = .ok (.aload_n 0, 1) := by decide +kernel
theorem dX0_letDivide_23 : decode cX0_letDivide 23 = .ok (.getfield 24, 3) := by decide +kernel
theorem dX0_letDivide_26 : decode cX0_letDivide 26 = .ok (.aload_n 0, 1) := by decide +kernel
theorem dX0_letDivide_27 : decode cX0_letDivide 27 = .ok (.getfield 30, 3) := by decide +kernel
theorem dX0_letDivide_30 : decode cX0_letDivide 30 = .ok (.invokevirtual 98, 3) := by decide +kernel
theorem dX0_letDivide_33 : decode cX0_letDivide 33 = .ok (.aload_n 0, 1) := by decide +kernel
theorem dX0_letDivide_34 : decode cX0_letDivide 34 = .ok (.aload_n 1, 1) := by decide +kernel
theorem dX0_letDivide_35 : decode cX0_letDivide 35 = .ok (.aload_n 0, 1) := by decide +kernel
theorem dX0_letDivide_36 : decode cX0_letDivide 36 = .ok (.getfield 24, 3) := by decide +kernel
theorem dX0_letDivide_39 : decode cX0_letDivide 39 = .ok (.aload_n 0, 1) := by decide +kernel
theorem dX0_letDivide_40 : decode cX0_letDivide 40 = .ok (.getfield 30, 3) := by decide +kernel
theorem dX0_letDivide_43 : decode cX0_letDivide 43 = .ok (.invokevirtual 103, 3) := by decide +kernel
theorem dX0_letDivide_46 : decode cX0_letDivide 46 = .ok (.aload_n 0, 1) := by decide +kernel
theorem dX0_letDivide_47 : decode cX0_letDivide 47 = .ok (.getfield 33, 3) := by decide +kernel
theorem dX0_letDivide_50 : decode cX0_letDivide 50 = .ok (.aload_n 0, 1) := by decide +kernel
theorem dX0_letDivide_51 : decode cX0_letDivide 51 = .ok (.getfield 30, 3) := by decide +kernel
theorem dX0_letDivide_54 : decode cX0_letDivide 54 = .ok (.aload_n 2, 1) := by decide +kernel
theorem dX0_letDivide_55 : decode cX0_letDivide 55 = .ok (.invokevirtual 107, 3) := by decide +kernel
theorem dX0_letDivide_58 : decode cX0_letDivide 58 = .ok (.aload_n 2, 1) := by decide +kernel
theorem dX0_letDivide_59 : decode cX0_letDivide 59 = .ok (.aload_n 0, 1) := by decide +kernel
theorem dX0_letDivide_60 : decode cX0_letDivide 60 = .ok (.getfield 33, 3) := by decide +kernel
theorem dX0_letDivide_63 : decode cX0_letDivide 63 = .ok (.invokevirtual 98, 3) := by decide +kernel
theorem dX0_letDivide_66 : decode cX0_letDivide 66 = .ok (.aload_n 1, 1) := by decide +kernel
theorem dX0_letDivide_67 : decode cX0_letDivide 67 = .ok (.aload_n 0, 1) := by decide +kernel
theorem dX0_letDivide_68 : decode cX0_letDivide 68 = .ok (.getfield 24, 3) := by decide +kernel
theorem dX0_letDivide_71 : decode cX0_letDivide 71 = .ok (.invokevirtual 98, 3) := by decide +kernel
theorem dX0_letDivide_74 : decode cX0_letDivide 74 = .ok (.return_, 1) := by decide +kernel
theorem w_letDivide (g : GX) (d : Nat) {ws : List Nat} {SA : Nat → Prop} {D : DT} {V : AH} {sz a b : Nat} {Z : Nat → Int} {P L : Nat → Nat} {T : Int} (hX : DKX ws D) (hT2 : Sm (2 * T)) (hw0 : WG g ws SA V sz Z P L) (hD : DKV ws SA V Z D) (ha : a ∈ ws ∧ nDk D a ∧ US ws D a) (hb : b ∈ ws ∧ nDk D b ∧ US ws D b) (hab : a ≠ b) (hap : 0 < Z a) (hTa : ab (Z a) ≤ T) (hTb : ab (Z b) ≤ T) (hTl : ab (Z a / ((Int.gcd (Z a) (Z b) : Nat) : Int) * Z b) ≤ 2 * T) : AMet g mX0_letDivide (d + 6) [.ref D.dk, .ref a, .ref b] V sz (WE g ws SA E0 V sz L (fun r _ Z' => none = r ∧ Z' a = ((Int.gcd (Z a) (Z b) : Nat) : Int) ∧ Z' b = Z a / ((Int.gcd (Z a) (Z b) : Nat) : Int) * Z b ∧ ∀ x, nDk D x → x ≠ a → x ≠ b → Z' x = Z x)) := by
  have hdk := hD.2.1
  have hSa : Sm (Z a) := Sm.of hT2 (by have := ab0 (Z a); omega)
  have hSb : Sm (Z b) := Sm.of hT2 (by have := ab0 (Z b); omega)
  have hSl : Sm (Z a / ((Int.gcd (Z a) (Z b) : Nat) : Int) * Z b) := Sm.of hT2 hTl
  have hSq : Sm (Z a / ((Int.gcd (Z a) (Z b) : Nat) : Int)) := Sm.of hT2 (by
    have h5 : ab (Z a / ((Int.gcd (Z a) (Z b) : Nat) : Int)) ≤ ab (Z a) := by
      unfold ab
      have := Int.natAbs_ediv_le_natAbs (Z a) ((Int.gcd (Z a) (Z b) : Nat) : Int)
      omega
    have := ab0 (Z a)
    omega)
  have hSg : Sm ((Int.gcd (Z a) (Z b) : Nat) : Int) := Sm.of hT2 (by
    have h5 := Int.gcd_le_left (Z b) hap
    rw [ab_pos (Int.natCast_nonneg _)]
    rw [ab_pos (by omega)] at hTa
    omega)
  refine AMet.of rfl rfl (Nat.le_of_ble_eq_true rfl) ?_
  show AW g mX0_letDivide (d + 6) 0 [(0, .ref D.dk), (1, .ref a), (2, .ref b)] [] V sz _
  refine aw_aload_n dX0_letDivide_0 (by rfl) (Or.inr ⟨_, rfl⟩) ?_
  refine aw_aload_n dX0_letDivide_1 (by rfl) (Or.inr ⟨_, rfl⟩) ?_
  refine aw_aload_n dX0_letDivide_2 (by rfl) (Or.inr ⟨_, rfl⟩) ?_
  refine aw_aload_n dX0_letDivide_3 (by rfl) (Or.inr ⟨_, rfl⟩) ?_
  refine aw_get fX0_30 dX0_letDivide_4 (by assumption) (by rfl) ?_
  refine aw_callv vX0_110 dX0_letDivide_7 (by assumption) (w_findShared g d (sh := D.fx) (T := T) hX ⟨hX.1.2.2.1.1, hX.2.2.1.symm, hX.2.2.2.2.1.symm, hX.2.2.2.2.2.2⟩ hT2 hw0 hD ha hb hTa hTb) (by rfl) (by rfl) (by omega) (Nat.le_of_ble_eq_true rfl) ?_
  rintro _ V1 sz1 mc1 ms1 ⟨Z1, P1, L1, ⟨rfl, hg1, ho1⟩, hs1⟩ -
  refine WE.stp hs1 ?_
  have hkv1 : ∀ q, SA q → V1 q = V q := fun q hq => hs1.2.2.1 q hq (fun z => z)
  have hdk1 := (hkv1 _ hD.1).trans hdk
  have ea : Z1 a = Z a := ho1 a ha.2.1 ha.2.1.2.2.1
  have eb : Z1 b = Z b := ho1 b hb.2.1 hb.2.1.2.2.1
  obtain ⟨n2, F2, hW2⟩ := hs1.1.raw hX.1.2.2.1.1
  have hD1 : DKV ws SA V1 Z1 D := hD.kept (hkv1 _ hD.1) (ho1 _ ⟨hX.1.1.2.1.symm, hX.1.2.1.2.1.symm, hX.1.2.2.1.2.1.symm, hX.1.2.2.2.2.1.symm⟩ hX.1.2.2.1.2.1.symm) (ho1 _ ⟨hX.1.1.2.2.1.symm, hX.1.2.1.2.2.1.symm, hX.1.2.2.1.2.2.1.symm, hX.1.2.2.2.2.2.1.symm⟩ hX.1.2.2.1.2.2.1.symm) (ho1 _ ⟨hX.1.1.2.2.2.symm, hX.1.2.1.2.2.2.symm, hX.1.2.2.1.2.2.2.symm, hX.1.2.2.2.2.2.2.symm⟩ hX.1.2.2.1.2.2.2.symm)
  refine aw_aload_n dX0_letDivide_10 (by rfl) (Or.inr ⟨_, rfl⟩) ?_
  refine aw_get fX0_30 dX0_letDivide_11 (by assumption) (by rfl) ?_
  refine aw_aload_n dX0_letDivide_14 (by rfl) (Or.inr ⟨_, rfl⟩) ?_
  refine aw_callv vX0_52 dX0_letDivide_15 hW2.1 (t_compareSize g (d + 5) (hs1.1.2.1 _ hX.1.2.2.1.1) (hs1.1.2.1 _ ha.1)) (by rfl) (by rfl) (by omega) (Nat.le_of_ble_eq_true rfl) ?_
  rintro _ _ _ _ _ ⟨rfl, rfl, rfl, rfl, rfl⟩ -
  refine q0 ?_
  rw [hg1, ea]
  refine aw_if_neZ (tgt := 22) dX0_letDivide_18 (by decide) (cmpZ_R _ _) (fun hc_18 => ?_) (fun hc_18 => ?_)
  · obtain ⟨n3, F3, hW3⟩ := hs1.1.raw hX.1.1.1
    refine aw_aload_n dX0_letDivide_22 (by rfl) (Or.inr ⟨_, rfl⟩) ?_
    refine aw_get fX0_24 dX0_letDivide_23 (by assumption) (by rfl) ?_
    refine aw_aload_n dX0_letDivide_26 (by rfl) (Or.inr ⟨_, rfl⟩) ?_
    refine aw_get fX0_30 dX0_letDivide_27 (by assumption) (by rfl) ?_
    refine aw_callv vX0_98 dX0_letDivide_30 hW3.1 (w_copy (d + 2) hs1.1 hX.1.1.1 hX.1.2.2.1.1 hX.2.2.1 (Sm.u156 (by rw [hg1]; exact hSg))) (by rfl) (by rfl) (by omega) (Nat.le_of_ble_eq_true rfl) ?_
    rintro _ V2 sz2 mc2 ms2 ⟨rfl, P2, L2, hs2⟩ -
    refine WE.stp (WSE.of hs2) ?_
    have hdk2 := (hs2.2.2.1 _ hD.1).trans hdk1
    have e2 : ∀ x, x ≠ D.gr → upF Z1 D.gr (Z1 D.fx) x = Z1 x := fun x hx => upF_ne _ _ hx
    have hD2 : DKV ws SA V2 (upF Z1 D.gr (Z1 D.fx)) D := hD1.kept (hs2.2.2.1 _ hD.1) (e2 _ hX.1.1.2.1.symm) (e2 _ hX.1.1.2.2.1.symm) (e2 _ hX.1.1.2.2.2.symm)
    refine aw_aload_n dX0_letDivide_33 (by rfl) (Or.inr ⟨_, rfl⟩) ?_
    refine aw_aload_n dX0_letDivide_34 (by rfl) (Or.inr ⟨_, rfl⟩) ?_
    refine aw_aload_n dX0_letDivide_35 (by rfl) (Or.inr ⟨_, rfl⟩) ?_
    refine aw_get fX0_24 dX0_letDivide_36 (by assumption) (by rfl) ?_
    refine aw_aload_n dX0_letDivide_39 (by rfl) (Or.inr ⟨_, rfl⟩) ?_
    refine aw_get fX0_30 dX0_letDivide_40 (by assumption) (by rfl) ?_
    refine aw_callv vX0_103 dX0_letDivide_43 hdk2 (w_div (d + 1) hs2.1 hD2 ha.2.2 hX.1.1 hX.1.2.2.1 (by rw [e2 a ha.2.1.1, ea]; exact hSa)) (by rfl) (by rfl) (by omega) (Nat.le_of_ble_eq_true rfl) ?_
    rintro _ V3 sz3 mc3 ms3 ⟨rfl, P3, L3, hs3⟩ -
    refine WE.stp (WSE.of hs3) ?_
    have hdk3 := (hs3.2.2.1 _ hD.1).trans hdk2
    rw [e2 a ha.2.1.1, upF_self, ea, hg1] at hs3
    have e3 : ∀ x, x ≠ D.gr → x ≠ D.fx → upF (upF Z1 D.gr ((Int.gcd (Z a) (Z b) : Nat) : Int)) D.fx (Z a / ((Int.gcd (Z a) (Z b) : Nat) : Int)) x = Z1 x := fun x h1 h2 => by rw [upF_ne _ _ h2, upF_ne _ _ h1]
    obtain ⟨n4, F4, hW4⟩ := hs3.1.raw hX.1.2.2.2.1
    refine aw_aload_n dX0_letDivide_46 (by rfl) (Or.inr ⟨_, rfl⟩) ?_
    refine aw_get fX0_33 dX0_letDivide_47 (by assumption) (by rfl) ?_
    refine aw_aload_n dX0_letDivide_50 (by rfl) (Or.inr ⟨_, rfl⟩) ?_
    refine aw_get fX0_30 dX0_letDivide_51 (by assumption) (by rfl) ?_
    refine aw_aload_n dX0_letDivide_54 (by rfl) (Or.inr ⟨_, rfl⟩) ?_
    refine aw_callv vX0_107 dX0_letDivide_55 hW4.1 (w_product (d + 2) hs3.1 hX.1.2.2.2.1 hX.1.2.2.1.1 hb.1 hX.2.2.2.2.2.2.symm hb.2.1.2.2.2.symm (by rw [upF_self]; exact hSq) (by rw [e3 b hb.2.1.1 hb.2.1.2.2.1, eb]; exact hSb) (by rw [upF_self, e3 b hb.2.1.1 hb.2.1.2.2.1, eb]; exact hSl)) (by rfl) (by rfl) (by omega) (Nat.le_of_ble_eq_true rfl) ?_
    rintro _ V4 sz4 mc4 ms4 ⟨rfl, P4, L4, hs4⟩ -
    refine WE.stp (WSE.of hs4) ?_
    have hdk4 := (hs4.2.2.1 _ hD.1).trans hdk3
    rw [upF_self, e3 b hb.2.1.1 hb.2.1.2.2.1, eb] at hs4
    obtain ⟨n5, F5, hW5⟩ := hs4.1.raw hb.1
    refine aw_aload_n dX0_letDivide_58 (by rfl) (Or.inr ⟨_, rfl⟩) ?_
    refine aw_aload_n dX0_letDivide_59 (by rfl) (Or.inr ⟨_, rfl⟩) ?_
    refine aw_get fX0_33 dX0_letDivide_60 (by assumption) (by rfl) ?_
    refine aw_callv vX0_98 dX0_letDivide_63 hW5.1 (w_copy (d + 2) hs4.1 hb.1 hX.1.2.2.2.1 hb.2.1.2.2.2 (Sm.u156 (by rw [upF_self]; exact hSl))) (by rfl) (by rfl) (by omega) (Nat.le_of_ble_eq_true rfl) ?_
    rintro _ V5 sz5 mc5 ms5 ⟨rfl, P5, L5, hs5⟩ -
    refine WE.stp (WSE.of hs5) ?_
    have hdk5 := (hs5.2.2.1 _ hD.1).trans hdk4
    rw [upF_self] at hs5
    obtain ⟨n6, F6, hW6⟩ := hs5.1.raw ha.1
    have e6 : upF (upF (upF (upF Z1 D.gr ((Int.gcd (Z a) (Z b) : Nat) : Int)) D.fx (Z a / ((Int.gcd (Z a) (Z b) : Nat) : Int))) D.px (Z a / ((Int.gcd (Z a) (Z b) : Nat) : Int) * Z b)) b (Z a / ((Int.gcd (Z a) (Z b) : Nat) : Int) * Z b) D.gr = ((Int.gcd (Z a) (Z b) : Nat) : Int) := by rw [upF_ne _ _ hb.2.1.1.symm, upF_ne _ _ hX.2.2.2.1, upF_ne _ _ hX.2.2.1, upF_self]
    refine aw_aload_n dX0_letDivide_66 (by rfl) (Or.inr ⟨_, rfl⟩) ?_
    refine aw_aload_n dX0_letDivide_67 (by rfl) (Or.inr ⟨_, rfl⟩) ?_
    refine aw_get fX0_24 dX0_letDivide_68 (by assumption) (by rfl) ?_
    refine aw_callv vX0_98 dX0_letDivide_71 hW6.1 (w_copy (d + 2) hs5.1 ha.1 hX.1.1.1 ha.2.1.1 (Sm.u156 (by rw [e6]; exact hSg))) (by rfl) (by rfl) (by omega) (Nat.le_of_ble_eq_true rfl) ?_
    rintro _ V6 sz6 mc6 ms6 ⟨rfl, P6, L6, hs6⟩ -
    refine WE.stp (WSE.of hs6) ?_
    rw [e6] at hs6
    refine aw_ret dX0_letDivide_74 rfl ?_
    refine WE.ret hs6.1 ⟨rfl, upF_self _ _ _, ?_, fun x h1 h2 h3 => ?_⟩
    · rw [upF_ne _ _ hab.symm, upF_self]
    · rw [upF_ne _ _ h2, upF_ne _ _ h3, upF_ne _ _ h1.2.2.2, upF_ne _ _ h1.2.2.1, upF_ne _ _ h1.1]; exact ho1 x h1 h1.2.2.1
  · refine aw_ret dX0_letDivide_21 rfl ?_
    have heq : ((Int.gcd (Z a) (Z b) : Nat) : Int) = Z a := by
      have h1 := cmpZ_eq.mp hc_18
      have h2 := Int.natAbs_natCast (Int.gcd (Z a) (Z b))
      omega
    refine WE.ret hs1.1 ⟨rfl, by rw [ea, heq], ?_, fun x h1 _ _ => ho1 x h1 h1.2.2.1⟩
    rw [eb, heq, Int.ediv_self (by omega), Int.one_mul]
